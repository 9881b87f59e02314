/-! a Told's other changes, and fault -/
section
variable {cy : Nat → ClassId} {w u : Nat → va_E} {A : Nat → Prop} {lo n t b d d' wo nd : Nat} {wr : Nat → Nat} {G T P G' T' P' : Mem}
/-- the object alone: a draw -/
theorem TW.dr (h : TW cy w A lo n t b d wo wr nd G T P) : TW cy (va_up w t (.inr (7, tF t b d' wo (G 0 4)))) A lo n t b d' wo wr nd G T P := by
  refine h.of (xu_same _ _ _) (pw_ext h.pf (fun a h1 h2 => xu_ne (by omega))) (fun a _ h2 _ => xu_ne (by omega)) (fun a c N f _ h2 q => ⟨f, (xu_ne (by omega)).trans q⟩) (fun i hi => ?_) (fun i hi => ?_) ?_
  · obtain ⟨r, h1, h2⟩ := h.shutR i hi
    exact ⟨r, (xu_ne (by omega)).trans h1, h2⟩
  · obtain ⟨r, h1, h2⟩ := h.row i hi
    exact ⟨r, (xu_ne (by have := (h.wrA i hi).2; omega)).trans h1, h2⟩
  · obtain ⟨r, h1, h2⟩ := h.caps
    exact ⟨r, (xu_ne (by omega)).trans h1, h2⟩
theorem TW.fr_dr (h : TW cy w A lo n t b d wo wr nd G T P) {e : va_E} : Fr A w (va_up w t e) := fun a ha => xu_ne (fun q => ha (by rw [q]; exact h.own t (by omega) (by omega)))
/-- the object and the field: the permit -/
theorem TW.fper (h : TW cy w A lo n t b d wo wr nd G T P) {x : Int32} : TW cy (pw cy (va_up w t (.inr (7, tF t b d wo x))) (t + 1) (u2 G 0 4 x) T P) A lo n t b d wo wr nd (u2 G 0 4 x) T P := by
  refine h.of ((pw_out (by omega)).trans ((xu_same _ _ _).trans (by rw [u2_same]))) pw_pw (fun a _ h2 _ => (pw_out (by omega)).trans (xu_ne (by omega))) (fun a c N f _ h2 q => ⟨f, (pw_out (by omega)).trans ((xu_ne (by omega)).trans q)⟩) (fun i hi => ?_) (fun i hi => ?_) ?_
  · obtain ⟨r, h1, h2, h3⟩ := h.shutR i hi
    exact ⟨r, (pw_out (by omega)).trans ((xu_ne (by omega)).trans h1), by rw [u2_ne (by omega)]; exact h2, by rw [u2_ne (by omega)]; exact h3⟩
  · obtain ⟨r, h1, h2, h3, h4, h5⟩ := h.row i hi
    exact ⟨r, (pw_out (by have := (h.wrA i hi).2; omega)).trans ((xu_ne (by have := (h.wrA i hi).2; omega)).trans h1), by rw [u2_ne (by omega)]; exact h2, by rw [u2_ne (by omega)]; exact h3, by rw [u2_ne (by omega)]; exact h4, h5⟩
  · obtain ⟨r, h1, h2⟩ := h.caps
    exact ⟨r, (pw_out (by omega)).trans ((xu_ne (by omega)).trans h1), fun j hj => by rw [u2_ne (by omega)]; exact h2 j hj⟩
theorem TW.fr_per (h : TW cy w A lo n t b d wo wr nd G T P) {e : va_E} : Fr A w (pw cy (va_up w t e) (t + 1) G' T' P') := fun a ha => (pw_out (by
  by_cases e : a < t + 1 ∨ t + 1 + 118 ≤ a
  · exact e
  · exact absurd (h.own a (by omega) (by omega)) ha)).trans (h.fr_dr a ha)
/-- the field and the capacities -/
theorem TW.fcap (h : TW cy w A lo n t b d wo wr nd G T P) {r : Nat → Int32} (hr : ∀ j, j < 3 → r j = G 3 j) {f : Nat} {x : Int32} : TW cy (pw cy (va_up w (t + 155) (.inl (cy 0, 3, .inl (upd r f x)))) (t + 1) (u2 G 3 f x) T P) A lo n t b d wo wr nd (u2 G 3 f x) T P := by
  obtain ⟨r0, hr0, -⟩ := h.caps
  refine h.of ((pw_out (by omega)).trans ((xu_ne (by omega)).trans (by rw [u2_ne (by omega)]; exact h.obj))) pw_pw (fun a _ h2 hn => (pw_out (by omega)).trans (xu_ne (fun q => hn (cy 0) 3 r0 (by rw [q]; exact hr0)))) (fun a c N g _ h2 q => ?_) (fun i hi => ?_) (fun i hi => ?_) ⟨upd r f x, (pw_out (by omega)).trans (xu_same _ _ _), fun j hj => ?_⟩
  · rw [pw_out (by omega)]
    by_cases e : a = t + 155
    · subst e
      rw [hr0] at q
      cases q
      exact ⟨upd r f x, xu_same _ _ _⟩
    · exact ⟨g, (xu_ne e).trans q⟩
  · obtain ⟨r, h1, h2, h3⟩ := h.shutR i hi
    exact ⟨r, (pw_out (by omega)).trans ((xu_ne (by omega)).trans h1), by rw [u2_ne (by omega)]; exact h2, by rw [u2_ne (by omega)]; exact h3⟩
  · obtain ⟨r, h1, h2, h3, h4, h5⟩ := h.row i hi
    exact ⟨r, (pw_out (by have := (h.wrA i hi).2; omega)).trans ((xu_ne (by have := (h.wrA i hi).2; omega)).trans h1), by rw [u2_ne (by omega)]; exact h2, by rw [u2_ne (by omega)]; exact h3, by rw [u2_ne (by omega)]; exact h4, h5⟩
  · show (if j = f then x else r j) = if 3 = 3 ∧ j = f then x else G 3 j
    by_cases e : j = f
    · rw [if_pos e, if_pos ⟨rfl, e⟩]
    · rw [if_neg e, if_neg (fun q => e q.2)]
      exact hr j hj
theorem TW.fr_one (h : TW cy w A lo n t b d wo wr nd G T P) {q : Nat} (h1 : t ≤ q) (h2 : q < t + 157) {e : va_E} : Fr A w (pw cy (va_up w q e) (t + 1) G' T' P') := fun a ha => (pw_out (by
  by_cases e : a < t + 1 ∨ t + 1 + 118 ≤ a
  · exact e
  · exact absurd (h.own a (by omega) (by omega)) ha)).trans (xu_ne (fun e => ha (by rw [e]; exact h.own q h1 h2)))
/-- the field and a cell's faults -/
theorem TW.fshut (h : TW cy w A lo n t b d wo wr nd G T P) {c : Nat} (hc : c < 16) {r : Nat → Int32} (hr : r 0 = G (5 + 2 * c) 2 ∧ r 1 = G (5 + 2 * c) 3) {b2 x : Int32} : TW cy (pw cy (va_up w (t + 138 + c) (.inl (cy 5, 2, .inl (upd r (if b2 = 0 then 1 else 0) x)))) (t + 1) (m_shut G c b2 x) T P) A lo n t b d wo wr nd (m_shut G c b2 x) T P := by
  obtain ⟨r0, hr0, -⟩ := h.shutR c hc
  have hs : ∀ k j, k ≠ 5 + 2 * c → m_shut G c b2 x k j = G k j := fun k j hk => by
    unfold m_shut
    split
    · exact u2_ne (by omega)
    · exact u2_ne (by omega)
  refine h.of ((pw_out (by omega)).trans ((xu_ne (by omega)).trans (by rw [hs 0 4 (by omega)]; exact h.obj))) pw_pw (fun a _ h2 hn => (pw_out (by omega)).trans (xu_ne (fun q => hn (cy 5) 2 r0 (by rw [q]; exact hr0)))) (fun a c2 N g _ h2 q => ?_) (fun i hi => ?_) (fun i hi => ?_) ?_
  · rw [pw_out (by omega)]
    by_cases e : a = t + 138 + c
    · subst e
      rw [hr0] at q
      cases q
      exact ⟨_, xu_same _ _ _⟩
    · exact ⟨g, (xu_ne e).trans q⟩
  · by_cases e : i = c
    · subst e
      refine ⟨_, (pw_out (by omega)).trans (xu_same _ _ _), ?_, ?_⟩
      · unfold m_shut
        by_cases hb : b2 = 0
        · rw [if_pos hb, if_pos hb, u2_ne (by omega)]
          show (if 0 = 1 then x else r 0) = _
          rw [if_neg (by omega)]
          exact hr.1
        · rw [if_neg hb, if_neg hb, u2_same]
          rfl
      · unfold m_shut
        by_cases hb : b2 = 0
        · rw [if_pos hb, if_pos hb, u2_same]
          rfl
        · rw [if_neg hb, if_neg hb, u2_ne (by omega)]
          show (if 1 = 0 then x else r 1) = _
          rw [if_neg (by omega)]
          exact hr.2
    · obtain ⟨r, h1, h2, h3⟩ := h.shutR i hi
      exact ⟨r, (pw_out (by omega)).trans ((xu_ne (by omega)).trans h1), by rw [hs _ _ (by omega)]; exact h2, by rw [hs _ _ (by omega)]; exact h3⟩
  · obtain ⟨r, h1, h2, h3, h4, h5⟩ := h.row i hi
    exact ⟨r, (pw_out (by have := (h.wrA i hi).2; omega)).trans ((xu_ne (by have := (h.wrA i hi).2; omega)).trans h1), by rw [hs _ _ (by omega)]; exact h2, by rw [hs _ _ (by omega)]; exact h3, by rw [hs _ _ (by omega)]; exact h4, h5⟩
  · obtain ⟨r, h1, h2⟩ := h.caps
    exact ⟨r, (pw_out (by omega)).trans ((xu_ne (by omega)).trans h1), fun j hj => by rw [hs _ _ (by omega)]; exact h2 j hj⟩
end
set_option maxRecDepth 100000 in
set_option maxHeartbeats 4000000 in
/-- Told.fault, south -/
theorem c_X7_fault_0 (l : Launch) (D : va_G) (cy : Nat → ClassId) (lo n : Nat) (w : Nat → va_E) (b L : Nat) (xs : Nat → Int32) (A : Nat → Prop) (t d wo : Nat) (wr : Nat → Nat) (nd : Nat) (G T P : Mem) (hT : TW cy w A lo n t b d wo wr nd G T P) (hG : GI nd G) (ce : Nat) (hc : ce < 16) (x : Int32) (hx01 : x = 0 ∨ x = 1) (hnb0 : ¬ m_nb ce 0 = -1) : Met l yX7_fault wsX7_fault ({ frames := 3, cells := 0, slots := 0, locals := 67 }) (PcT D cy lo n w b L xs [.ref t, .int (nI ce), .int 0, .int x]) (QxT D lo n (fun r u => r = 1 ∧ TW cy u A lo n t b d wo wr nd (m_shut G ce 0 x) T P ∧ Fr A w u)) 0 0 (fun q : Nat => lo ≤ q) := by
  refine Met.ofW (cc := cX7_fault) (maxL := 5) (ret := (some .boolean)) (by decide) rfl ?_
  intro p e s m args below meth c s₁ B hml hv
  obtain ⟨rfl, hP, hK, hS, hX⟩ := x_entryT hv
  have hx := B.exec
  have hb := B.bytes
  have hr := B.returns
  have hts := atoms_spec (ws := wsX7_fault) B.pre
  have hown : s.vm.findClass RX7 = some m.cls := findClass_of_methodNamed B.named
  have iX7 : ∀ w ∈ u_ws RX7 TX7 13, w ∈ wsX7_fault := by decide +kernel
  have htb := hT.tb
  obtain ⟨r, hr0, q2, q3⟩ := hT.shutR ce hc
  have hl := lv_entry ([.ref t, .int (nI ce), .int 0, .int x]) (n := 5) (Nat.le_of_ble_eq_true rfl)
  rw [lg_entry_eq]
  generalize (lg_sl ([.ref t, .int (nI ce), .int 0, .int x]) ++ List.replicate (5 - (lg_sl ([.ref t, .int (nI ce), .int 0, .int x])).length) Slot.unset).toArray = ls at hl ⊢
  have hl : lv_has ls 5 [(0, .ref t), (1, .int (nI ce)), (2, .int 0), (3, .int x)] := hl
  refine lv_aload_n hx hb dX7_fault_0 rfl (lv_at hl 0 rfl) ?_
  refine x_get (ref := RX7) (C := RX7) (T := TX7) (N := 13) (ci := 7) (v := .ref (t + 137)) hx hb hts iX7 hown hK.1 hP (by omega) (by omega) hT.obj rfl 5 (by decide) (hts (.fieldLink RX7 27 "PoreFieldLaw$Told" "isShut" "[[Z") (by decide +kernel)) (fun _ h9 => h9) rfl dX7_fault_1 ?_
  refine lv_iload_n hx hb dX7_fault_4 rfl (lv_at hl 1 rfl) ?_
  refine x_aaldA hx hb hK.1 hP (by omega) (by omega) 7 hT.shut rfl (cl_of_nI (i := ce) rfl (by omega)) (if_pos hc) (vp_in_of_nI (i := ce) rfl (by omega) (by omega)) dX7_fault_5 ?_
  refine lv_iload_n hx hb dX7_fault_6 rfl (lv_at hl 2 rfl) ?_
  refine lv_if_eq (tgt := 14) hx hb dX7_fault_7 (by decide) (fun _ => ?_) (fun h => absurd rfl h)
  refine lv_iconst (v := 1) hx hb dX7_fault_14 (by decide) ?_
  refine x_zald hx hb hK.1 hP (by omega) (by omega) 5 hr0 rfl (cl_of_nI (i := 1) rfl (by omega)) (vp_in_of_nI (i := 1) rfl (by omega) (by omega)) dX7_fault_15 ?_
  refine lv_istore (lv' := [(4, .int (r 1)), (0, .ref t), (1, .int (nI ce)), (2, .int 0), (3, .int x)]) hx hb dX7_fault_16 hl (by decide) rfl (fun ls hl => ?_)
  refine lv_aload_n hx hb dX7_fault_18 rfl (lv_at hl 1 rfl) ?_
  refine x_get (ref := RX7) (C := RX7) (T := TX7) (N := 13) (ci := 7) (v := .ref (t + 137)) hx hb hts iX7 hown hK.1 hP (by omega) (by omega) hT.obj rfl 5 (by decide) (hts (.fieldLink RX7 27 "PoreFieldLaw$Told" "isShut" "[[Z") (by decide +kernel)) (fun _ h9 => h9) rfl dX7_fault_19 ?_
  refine lv_iload_n hx hb dX7_fault_22 rfl (lv_at hl 2 rfl) ?_
  refine x_aaldA hx hb hK.1 hP (by omega) (by omega) 7 hT.shut rfl (cl_of_nI (i := ce) rfl (by omega)) (if_pos hc) (vp_in_of_nI (i := ce) rfl (by omega) (by omega)) dX7_fault_23 ?_
  refine lv_iload_n hx hb dX7_fault_24 rfl (lv_at hl 3 rfl) ?_
  refine lv_if_eq (tgt := 32) hx hb dX7_fault_25 (by decide) (fun _ => ?_) (fun h => absurd rfl h)
  refine lv_iconst (v := 1) hx hb dX7_fault_32 (by decide) ?_
  refine lv_iload_n hx hb dX7_fault_33 rfl (lv_at hl 4 rfl) ?_
  refine x_zast hx hb hK.1 hP hS (by omega) (by omega) 5 hr0 rfl (cl_of_nI (i := 1) rfl (by omega)) hx01 (vp_in_of_nI (i := 1) rfl (by omega) (by omega)) dX7_fault_34 (fun H locs hP hS => ?_)
  refine lv_aload_n hx hb dX7_fault_35 rfl (lv_at hl 1 rfl) ?_
  refine x_get (ref := RX7) (C := RX7) (T := TX7) (N := 13) (ci := 7) (v := .ref (t + 1)) hx hb hts iX7 hown hK.1 hP (by omega) (by omega) ((xu_ne (by omega)).trans hT.obj) rfl 0 (by decide) (hts (.fieldLink RX7 10 "PoreFieldLaw$Told" "m" "LPoreField;") (by decide +kernel)) (fun _ h9 => h9) rfl dX7_fault_36 ?_
  refine lv_iload_n hx hb dX7_fault_39 rfl (lv_at hl 2 rfl) ?_
  refine lv_iload_n hx hb dX7_fault_40 rfl (lv_at hl 3 rfl) ?_
  refine lv_iload_n hx hb dX7_fault_41 rfl (lv_at hl 4 rfl) ?_
  have hpf : pw cy (va_up w (t + 138 + ce) (.inl (cy 5, 2, .inl (upd r 1 x)))) (t + 1) G T P = va_up w (t + 138 + ce) (.inl (cy 5, 2, .inl (upd r 1 x))) := pw_ext hT.pf (fun a h1 h2 => xu_ne (by omega))
  have hP := TW.to hpf hP
  refine x_calli (va_runV (As := [.int (nI ce), .int 0, .int x]) (rest := []) ⟨hx, hb, hml, hown, hts⟩ (c_X6_fault l D cy lo n (va_up w (t + 138 + ce) (.inl (cy 5, 2, .inl (upd r 1 x)))) (t + 1) G T P (by omega) (by omega) nd hG ce hc 0 x hx01 hnb0) (cwV 3 hts gX7_fault_X6_fault rfl rfl rfl (by decide +kernel) ⟨Nat.le_of_ble_eq_true rfl, Nat.le_of_ble_eq_true rfl⟩) (preV hP hK (x_recv (ci := 6) (q := (RX6, TX6, 11)) hK.1 hP (by omega) (by omega) rfl ((gw_out (by omega)).trans ((gw_out (by omega)).trans hw_0)))) rfl rfl hl.1 rfl (lv_room (Nat.le_of_ble_eq_true rfl)) dX7_fault_42 ⟨Nat.le_of_ble_eq_true rfl, Nat.le_of_ble_eq_true rfl⟩) hS (fun H locs hP hS => ?_)
  refine lv_iload hx hb dX7_fault_45 (lv_at hl 0 rfl) ?_
  refine lv_icmp_ne (tgt := 54) hx hb dX7_fault_47 (by decide) (fun h1 => absurd q3.symm h1) (fun h1 => ?_)
  refine lv_iconst (v := 1) hx hb dX7_fault_50 (by decide) ?_
  refine lv_goto (tgt := 55) hx hb dX7_fault_51 (by decide) ?_
  exact W.zret (v := 1) hx hb hr rfl (fun tE ht hW => ⟨⟨_, _, rfl, ⟨rfl, hT.fshut (b2 := 0) (x := x) hc ⟨q2, q3⟩, hT.fr_one (by omega) (by omega)⟩, x_at ht hP⟩, hS.F ht⟩) hS.2.2 dX7_fault_55
set_option maxRecDepth 100000 in
set_option maxHeartbeats 4000000 in
/-- Told.fault, east -/
theorem c_X7_fault_1 (l : Launch) (D : va_G) (cy : Nat → ClassId) (lo n : Nat) (w : Nat → va_E) (b L : Nat) (xs : Nat → Int32) (A : Nat → Prop) (t d wo : Nat) (wr : Nat → Nat) (nd : Nat) (G T P : Mem) (hT : TW cy w A lo n t b d wo wr nd G T P) (hG : GI nd G) (ce : Nat) (hc : ce < 16) (x : Int32) (hx01 : x = 0 ∨ x = 1) (hnb0 : ¬ m_nb ce 1 = -1) : Met l yX7_fault wsX7_fault ({ frames := 3, cells := 0, slots := 0, locals := 67 }) (PcT D cy lo n w b L xs [.ref t, .int (nI ce), .int 1, .int x]) (QxT D lo n (fun r u => r = 1 ∧ TW cy u A lo n t b d wo wr nd (m_shut G ce 1 x) T P ∧ Fr A w u)) 0 0 (fun q : Nat => lo ≤ q) := by
  refine Met.ofW (cc := cX7_fault) (maxL := 5) (ret := (some .boolean)) (by decide) rfl ?_
  intro p e s m args below meth c s₁ B hml hv
  obtain ⟨rfl, hP, hK, hS, hX⟩ := x_entryT hv
  have hx := B.exec
  have hb := B.bytes
  have hr := B.returns
  have hts := atoms_spec (ws := wsX7_fault) B.pre
  have hown : s.vm.findClass RX7 = some m.cls := findClass_of_methodNamed B.named
  have iX7 : ∀ w ∈ u_ws RX7 TX7 13, w ∈ wsX7_fault := by decide +kernel
  have htb := hT.tb
  obtain ⟨r, hr0, q2, q3⟩ := hT.shutR ce hc
  have hl := lv_entry ([.ref t, .int (nI ce), .int 1, .int x]) (n := 5) (Nat.le_of_ble_eq_true rfl)
  rw [lg_entry_eq]
  generalize (lg_sl ([.ref t, .int (nI ce), .int 1, .int x]) ++ List.replicate (5 - (lg_sl ([.ref t, .int (nI ce), .int 1, .int x])).length) Slot.unset).toArray = ls at hl ⊢
  have hl : lv_has ls 5 [(0, .ref t), (1, .int (nI ce)), (2, .int 1), (3, .int x)] := hl
  refine lv_aload_n hx hb dX7_fault_0 rfl (lv_at hl 0 rfl) ?_
  refine x_get (ref := RX7) (C := RX7) (T := TX7) (N := 13) (ci := 7) (v := .ref (t + 137)) hx hb hts iX7 hown hK.1 hP (by omega) (by omega) hT.obj rfl 5 (by decide) (hts (.fieldLink RX7 27 "PoreFieldLaw$Told" "isShut" "[[Z") (by decide +kernel)) (fun _ h9 => h9) rfl dX7_fault_1 ?_
  refine lv_iload_n hx hb dX7_fault_4 rfl (lv_at hl 1 rfl) ?_
  refine x_aaldA hx hb hK.1 hP (by omega) (by omega) 7 hT.shut rfl (cl_of_nI (i := ce) rfl (by omega)) (if_pos hc) (vp_in_of_nI (i := ce) rfl (by omega) (by omega)) dX7_fault_5 ?_
  refine lv_iload_n hx hb dX7_fault_6 rfl (lv_at hl 2 rfl) ?_
  refine lv_if_eq (tgt := 14) hx hb dX7_fault_7 (by decide) (fun h => absurd h (by decide)) (fun _ => ?_)
  refine lv_iconst (v := 0) hx hb dX7_fault_10 (by decide) ?_
  refine lv_goto (tgt := 15) hx hb dX7_fault_11 (by decide) ?_
  refine x_zald hx hb hK.1 hP (by omega) (by omega) 5 hr0 rfl (cl_of_nI (i := 0) rfl (by omega)) (vp_in_of_nI (i := 0) rfl (by omega) (by omega)) dX7_fault_15 ?_
  refine lv_istore (lv' := [(4, .int (r 0)), (0, .ref t), (1, .int (nI ce)), (2, .int 1), (3, .int x)]) hx hb dX7_fault_16 hl (by decide) rfl (fun ls hl => ?_)
  refine lv_aload_n hx hb dX7_fault_18 rfl (lv_at hl 1 rfl) ?_
  refine x_get (ref := RX7) (C := RX7) (T := TX7) (N := 13) (ci := 7) (v := .ref (t + 137)) hx hb hts iX7 hown hK.1 hP (by omega) (by omega) hT.obj rfl 5 (by decide) (hts (.fieldLink RX7 27 "PoreFieldLaw$Told" "isShut" "[[Z") (by decide +kernel)) (fun _ h9 => h9) rfl dX7_fault_19 ?_
  refine lv_iload_n hx hb dX7_fault_22 rfl (lv_at hl 2 rfl) ?_
  refine x_aaldA hx hb hK.1 hP (by omega) (by omega) 7 hT.shut rfl (cl_of_nI (i := ce) rfl (by omega)) (if_pos hc) (vp_in_of_nI (i := ce) rfl (by omega) (by omega)) dX7_fault_23 ?_
  refine lv_iload_n hx hb dX7_fault_24 rfl (lv_at hl 3 rfl) ?_
  refine lv_if_eq (tgt := 32) hx hb dX7_fault_25 (by decide) (fun h => absurd h (by decide)) (fun _ => ?_)
  refine lv_iconst (v := 0) hx hb dX7_fault_28 (by decide) ?_
  refine lv_goto (tgt := 33) hx hb dX7_fault_29 (by decide) ?_
  refine lv_iload_n hx hb dX7_fault_33 rfl (lv_at hl 4 rfl) ?_
  refine x_zast hx hb hK.1 hP hS (by omega) (by omega) 5 hr0 rfl (cl_of_nI (i := 0) rfl (by omega)) hx01 (vp_in_of_nI (i := 0) rfl (by omega) (by omega)) dX7_fault_34 (fun H locs hP hS => ?_)
  refine lv_aload_n hx hb dX7_fault_35 rfl (lv_at hl 1 rfl) ?_
  refine x_get (ref := RX7) (C := RX7) (T := TX7) (N := 13) (ci := 7) (v := .ref (t + 1)) hx hb hts iX7 hown hK.1 hP (by omega) (by omega) ((xu_ne (by omega)).trans hT.obj) rfl 0 (by decide) (hts (.fieldLink RX7 10 "PoreFieldLaw$Told" "m" "LPoreField;") (by decide +kernel)) (fun _ h9 => h9) rfl dX7_fault_36 ?_
  refine lv_iload_n hx hb dX7_fault_39 rfl (lv_at hl 2 rfl) ?_
  refine lv_iload_n hx hb dX7_fault_40 rfl (lv_at hl 3 rfl) ?_
  refine lv_iload_n hx hb dX7_fault_41 rfl (lv_at hl 4 rfl) ?_
  have hpf : pw cy (va_up w (t + 138 + ce) (.inl (cy 5, 2, .inl (upd r 0 x)))) (t + 1) G T P = va_up w (t + 138 + ce) (.inl (cy 5, 2, .inl (upd r 0 x))) := pw_ext hT.pf (fun a h1 h2 => xu_ne (by omega))
  have hP := TW.to hpf hP
  refine x_calli (va_runV (As := [.int (nI ce), .int 1, .int x]) (rest := []) ⟨hx, hb, hml, hown, hts⟩ (c_X6_fault l D cy lo n (va_up w (t + 138 + ce) (.inl (cy 5, 2, .inl (upd r 0 x)))) (t + 1) G T P (by omega) (by omega) nd hG ce hc 1 x hx01 hnb0) (cwV 3 hts gX7_fault_X6_fault rfl rfl rfl (by decide +kernel) ⟨Nat.le_of_ble_eq_true rfl, Nat.le_of_ble_eq_true rfl⟩) (preV hP hK (x_recv (ci := 6) (q := (RX6, TX6, 11)) hK.1 hP (by omega) (by omega) rfl ((gw_out (by omega)).trans ((gw_out (by omega)).trans hw_0)))) rfl rfl hl.1 rfl (lv_room (Nat.le_of_ble_eq_true rfl)) dX7_fault_42 ⟨Nat.le_of_ble_eq_true rfl, Nat.le_of_ble_eq_true rfl⟩) hS (fun H locs hP hS => ?_)
  refine lv_iload hx hb dX7_fault_45 (lv_at hl 0 rfl) ?_
  refine lv_icmp_ne (tgt := 54) hx hb dX7_fault_47 (by decide) (fun h1 => absurd q2.symm h1) (fun h1 => ?_)
  refine lv_iconst (v := 1) hx hb dX7_fault_50 (by decide) ?_
  refine lv_goto (tgt := 55) hx hb dX7_fault_51 (by decide) ?_
  exact W.zret (v := 1) hx hb hr rfl (fun tE ht hW => ⟨⟨_, _, rfl, ⟨rfl, hT.fshut (b2 := 1) (x := x) hc ⟨q2, q3⟩, hT.fr_one (by omega) (by omega)⟩, x_at ht hP⟩, hS.F ht⟩) hS.2.2 dX7_fault_55
