/-! Told.lay -/
theorem xu_xu {α : Type} {w : Nat → α} {a : Nat} {e e' : α} : va_up (va_up w a e) a e' = va_up w a e' := by
  funext q
  by_cases h : q = a
  · rw [h, xu_same, xu_same]
  · rw [xu_ne h, xu_ne h, xu_ne h]
set_option maxRecDepth 100000 in
set_option maxHeartbeats 4000000 in
/-- Told.all -/
theorem c_X7_all (l : Launch) (D : va_G) (cy : Nat → ClassId) (lo n : Nat) (w : Nat → va_E) (b L : Nat) (xs : Nat → Int32) (t d wo : Nat) (pe : Int32) (ht1 : lo ≤ t) (ht2 : t + 157 ≤ lo + n) (hobj : w t = .inr (7, tF t b d wo pe)) (ce : Nat) (hc : ce < 16) {f : Nat → Option Nat} (hf : w (t + 120) = .inl (cy 6, 16, .inr (.inr (.inr (.inr f))))) {y : Nat} (hfc : f ce = some y) (hy1 : lo ≤ y) (hy2 : y < lo + n) {r : Nat → Int32} (hr0 : w y = .inl (cy 0, 3, .inl r)) : Met l yX7_all wsX7_all ({ frames := 0, cells := 0, slots := 0, locals := 0 }) (PcT D cy lo n w b L xs [.ref t, .int (nI ce)]) (QiW D lo n w (r 0 + r 1 + r 2)) 0 0 (fun q : Nat => lo ≤ q) := by
  refine Met.ofW (cc := cX7_all) (maxL := 2) (ret := (some .int)) (by decide) rfl ?_
  intro p e s m args below meth c s₁ B hml hv
  obtain ⟨rfl, hP, hK, hS, hX⟩ := x_entryT hv
  have hx := B.exec
  have hb := B.bytes
  have hr := B.returns
  have hts := atoms_spec (ws := wsX7_all) B.pre
  have hown : s.vm.findClass RX7 = some m.cls := findClass_of_methodNamed B.named
  have iX7 : ∀ w ∈ u_ws RX7 TX7 13, w ∈ wsX7_all := by decide +kernel
  have hl := lv_entry ([.ref t, .int (nI ce)]) (n := 2) (Nat.le_of_ble_eq_true rfl)
  rw [lg_entry_eq]
  generalize (lg_sl ([.ref t, .int (nI ce)]) ++ List.replicate (2 - (lg_sl ([.ref t, .int (nI ce)])).length) Slot.unset).toArray = ls at hl ⊢
  have hl : lv_has ls 2 [(0, .ref t), (1, .int (nI ce))] := hl
  refine lv_aload_n hx hb dX7_all_0 rfl (lv_at hl 0 rfl) ?_
  refine x_get (ref := RX7) (C := RX7) (T := TX7) (N := 13) (ci := 7) (v := .ref (t + 120)) hx hb hts iX7 hown hK.1 hP (by omega) (by omega) hobj rfl 4 (by decide) (hts (.fieldLink RX7 22 "PoreFieldLaw$Told" "has" "[[I") (by decide +kernel)) (fun _ h9 => h9) rfl dX7_all_1 ?_
  refine lv_iload_n hx hb dX7_all_4 rfl (lv_at hl 1 rfl) ?_
  refine x_aaldA hx hb hK.1 hP (by omega) (by omega) 6 hf rfl (cl_of_nI (i := ce) rfl (by omega)) hfc (vp_in_of_nI (i := ce) rfl (by omega) (by omega)) dX7_all_5 ?_
  refine lv_iconst (v := 0) hx hb dX7_all_6 (by decide) ?_
  refine x_iald hx hb hK.1 hP (by omega) (by omega) 0 hr0 rfl (cl_of_nI (i := 0) rfl (by omega)) (vp_in_of_nI (i := 0) rfl (by omega) (by omega)) dX7_all_7 ?_
  refine lv_aload_n hx hb dX7_all_8 rfl (lv_at hl 0 rfl) ?_
  refine x_get (ref := RX7) (C := RX7) (T := TX7) (N := 13) (ci := 7) (v := .ref (t + 120)) hx hb hts iX7 hown hK.1 hP (by omega) (by omega) hobj rfl 4 (by decide) (hts (.fieldLink RX7 22 "PoreFieldLaw$Told" "has" "[[I") (by decide +kernel)) (fun _ h9 => h9) rfl dX7_all_9 ?_
  refine lv_iload_n hx hb dX7_all_12 rfl (lv_at hl 1 rfl) ?_
  refine x_aaldA hx hb hK.1 hP (by omega) (by omega) 6 hf rfl (cl_of_nI (i := ce) rfl (by omega)) hfc (vp_in_of_nI (i := ce) rfl (by omega) (by omega)) dX7_all_13 ?_
  refine lv_iconst (v := 1) hx hb dX7_all_14 (by decide) ?_
  refine x_iald hx hb hK.1 hP (by omega) (by omega) 0 hr0 rfl (cl_of_nI (i := 1) rfl (by omega)) (vp_in_of_nI (i := 1) rfl (by omega) (by omega)) dX7_all_15 ?_
  refine lv_iadd hx hb dX7_all_16 ?_
  refine lv_aload_n hx hb dX7_all_17 rfl (lv_at hl 0 rfl) ?_
  refine x_get (ref := RX7) (C := RX7) (T := TX7) (N := 13) (ci := 7) (v := .ref (t + 120)) hx hb hts iX7 hown hK.1 hP (by omega) (by omega) hobj rfl 4 (by decide) (hts (.fieldLink RX7 22 "PoreFieldLaw$Told" "has" "[[I") (by decide +kernel)) (fun _ h9 => h9) rfl dX7_all_18 ?_
  refine lv_iload_n hx hb dX7_all_21 rfl (lv_at hl 1 rfl) ?_
  refine x_aaldA hx hb hK.1 hP (by omega) (by omega) 6 hf rfl (cl_of_nI (i := ce) rfl (by omega)) hfc (vp_in_of_nI (i := ce) rfl (by omega) (by omega)) dX7_all_22 ?_
  refine lv_iconst (v := 2) hx hb dX7_all_23 (by decide) ?_
  refine x_iald hx hb hK.1 hP (by omega) (by omega) 0 hr0 rfl (cl_of_nI (i := 2) rfl (by omega)) (vp_in_of_nI (i := 2) rfl (by omega) (by omega)) dX7_all_24 ?_
  refine lv_iadd hx hb dX7_all_25 ?_
  exact W.iret (v := r 0 + r 1 + r 2) hx hb hr (fun tE ht hW => ⟨⟨_, (), rfl, rfl, x_at ht hP⟩, hS.F ht⟩) hS.2.2 dX7_all_26
set_option maxRecDepth 100000 in
set_option maxHeartbeats 4000000 in
/-- Told.pressure -/
theorem c_X7_pressure (l : Launch) (D : va_G) (cy : Nat → ClassId) (lo n : Nat) (w : Nat → va_E) (b L : Nat) (xs : Nat → Int32) (t d wo : Nat) (pe : Int32) (ht1 : lo ≤ t) (ht2 : t + 157 ≤ lo + n) (hobj : w t = .inr (7, tF t b d wo pe)) (ce : Nat) (hc : ce < 16) {f : Nat → Option Nat} (hf : w (t + 120) = .inl (cy 6, 16, .inr (.inr (.inr (.inr f))))) {y : Nat} (hfc : f ce = some y) (hy1 : lo ≤ y) (hy2 : y < lo + n) {r : Nat → Int32} (hr0 : w y = .inl (cy 0, 3, .inl r)) {ro : Nat → Int32} (hro : w (t + 119) = .inl (cy 0, 16, .inl ro)) (hne : ¬ ro ce = 0) (hbl : b < lo) : Met l yX7_pressure wsX7_pressure ({ frames := 1, cells := 0, slots := 0, locals := 21 }) (PcT D cy lo n w b L xs [.ref t, .int (nI ce)]) (QiW D lo n w (100 * (r 0 + r 1 + r 2) / ro ce)) 0 0 (fun q : Nat => lo ≤ q) := by
  refine Met.ofW (cc := cX7_pressure) (maxL := 2) (ret := (some .int)) (by decide) rfl ?_
  intro p e s m args below meth c s₁ B hml hv
  obtain ⟨rfl, hP, hK, hS, hX⟩ := x_entryT hv
  have hx := B.exec
  have hb := B.bytes
  have hr := B.returns
  have hts := atoms_spec (ws := wsX7_pressure) B.pre
  have hown : s.vm.findClass RX7 = some m.cls := findClass_of_methodNamed B.named
  have iX7 : ∀ w ∈ u_ws RX7 TX7 13, w ∈ wsX7_pressure := by decide +kernel
  have hl := lv_entry ([.ref t, .int (nI ce)]) (n := 2) (Nat.le_of_ble_eq_true rfl)
  rw [lg_entry_eq]
  generalize (lg_sl ([.ref t, .int (nI ce)]) ++ List.replicate (2 - (lg_sl ([.ref t, .int (nI ce)])).length) Slot.unset).toArray = ls at hl ⊢
  have hl : lv_has ls 2 [(0, .ref t), (1, .int (nI ce))] := hl
  refine lv_bipush (v := 100) hx hb dX7_pressure_0 (by decide) ?_
  refine lv_aload_n hx hb dX7_pressure_2 rfl (lv_at hl 0 rfl) ?_
  refine lv_iload_n hx hb dX7_pressure_3 rfl (lv_at hl 1 rfl) ?_
  refine x_calli (va_runV (As := [.int (nI ce)]) (rest := [.int (100 : Int32)]) ⟨hx, hb, hml, hown, hts⟩ (c_X7_all l D cy lo n w b L xs t d wo pe ht1 ht2 hobj ce hc hf hfc hy1 hy2 hr0) (cwV 1 hts gX7_pressure_X7_all rfl rfl rfl (by decide +kernel) ⟨Nat.le_of_ble_eq_true rfl, Nat.le_of_ble_eq_true rfl⟩) (preVT hP hK (x_scr hX hbl hS) (x_recv (ci := 7) (q := (RX7, TX7, 13)) hK.1 hP (by omega) (by omega) rfl hobj)) rfl rfl hl.1 rfl (lv_room (Nat.le_of_ble_eq_true rfl)) dX7_pressure_4 ⟨Nat.le_of_ble_eq_true rfl, Nat.le_of_ble_eq_true rfl⟩) hS (fun H locs hP hS => ?_)
  refine lv_imul hx hb dX7_pressure_7 ?_
  refine lv_aload_n hx hb dX7_pressure_8 rfl (lv_at hl 0 rfl) ?_
  refine x_get (ref := RX7) (C := RX7) (T := TX7) (N := 13) (ci := 7) (v := .ref (t + 119)) hx hb hts iX7 hown hK.1 hP (by omega) (by omega) hobj rfl 3 (by decide) (hts (.fieldLink RX7 16 "PoreFieldLaw$Told" "rooms" "[I") (by decide +kernel)) (fun _ h9 => h9) rfl dX7_pressure_9 ?_
  refine lv_iload_n hx hb dX7_pressure_12 rfl (lv_at hl 1 rfl) ?_
  refine x_iald hx hb hK.1 hP (by omega) (by omega) 0 hro rfl (cl_of_nI (i := ce) rfl (by omega)) (vp_in_of_nI (i := ce) rfl (by omega) (by omega)) dX7_pressure_13 ?_
  refine lv_idiv hx hb dX7_pressure_14 hne ?_
  exact W.iret (v := 100 * (r 0 + r 1 + r 2) / ro ce) hx hb hr (fun tE ht hW => ⟨⟨_, (), rfl, rfl, x_at ht hP⟩, hS.F ht⟩) hS.2.2 dX7_pressure_15
/-- with the heap's size -/
def PcZ (D : va_G) (cy : Nat → ClassId) (lo n : Nat) (w : Nat → va_E) (b L : Nat) (xs : Nat → Int32) (av : List Value) : Array Value → State → Prop := va_Pc av (fun U => ((va_P D vwCl (rl lo n w) U.heap ∧ KK D cy U) ∧ va_X b L xs U U.heap) ∧ U.heap.size = lo + n)
abbrev QzT (D : va_G) (lo : Nat) (X : Int32 → Nat → (Nat → va_E) → Prop) : Array Value → State → Outcome → State → Prop := va_Qi (fun (r : Int32) (u : Nat × (Nat → va_E)) => X r u.1 u.2) (fun u t => va_P D vwCl (rl lo u.1 u.2) t.heap ∧ t.heap.size = lo + u.1) (fun q : Nat => lo ≤ q)
section
variable {p : Program} {l : Launch} {e : Env} {R : Room} {s : State} {m : MethodId} {args : Array Value} {below : List Frame} {meth : Method} {c : Code} {H : Heap} {locs : List Loc} {cells slots : Nat} {Q : State → Prop}
variable {pc : Nat} {ls : Array Slot} {rest st0 : List Value} {a : Array Value} {D : va_G} {cy : Nat → ClassId} {H0 : Heap} {lo n : Nat} {w : Nat → va_E} {mc ms : Nat}
theorem PcZ.blind {b L : Nat} {xs : Nat → Int32} {av : List Value} : FrameBlind (PcZ D cy lo n w b L xs av) := fun _ U g mk q => ⟨q.1, ⟨⟨q.2.1.1.1, KK.same (u := U) (by rfl) q.2.1.1.2⟩, va_X.moved (u := U) (Vm.Alike.refl U.vm) q.2.1.2⟩, q.2.2⟩
theorem preVZ {C : String} {q b L : Nat} {xs : Nat → Int32} {As : List Value} (hP : va_P D vwCl (rl lo n w) H) (hK : KK D cy s) (hX : va_X b L xs s H) (hz : H.size = lo + n) (hr : ∃ cell : Cell, H[q]? = some cell ∧ cell.vm.isStatics = false ∧ s.vm.findClass C = some cell.cls) : PreV s H C q (PcZ D cy lo n w b L xs (.ref q :: As)) As :=
  ⟨PcZ.blind, hr, fun U hU hW => ⟨rfl, ⟨⟨by rw [hU]; exact hP, hK.warm hW⟩, by rw [hU]; exact hX.moved hW.alike⟩, by rw [hU]; exact hz⟩⟩
theorem x_entryZ {b L : Nat} {xs : Nat → Int32} {av : List Value} (hv : PcZ D cy lo n w b L xs av args s) : args = av.toArray ∧ va_P D vwCl (rl lo n w) s.heap ∧ KK D cy s ∧ va_S (fun q : Nat => lo ≤ q) s.heap s.heap [] ∧ va_X b L xs s s.heap ∧ s.heap.size = lo + n := ⟨hv.1, hv.2.1.1.1, hv.2.1.1.2, va_S.rf, hv.2.1.2, hv.2.2⟩
theorem x_callz {X : Int32 → Nat → (Nat → va_E) → Prop} (hr : va_Run p l e R s m args below meth c H locs cells slots mc ms (F0 m pc ls st0) rest (QzT D lo X a) (fun q : Nat => lo ≤ q)) (hS : va_S (fun q : Nat => lo ≤ q) H0 H locs)
    (kk : ∀ (v : Int32) (n1 : Nat) (u : Nat → va_E) (H1 : Heap) (locs1 : List Loc), X v n1 u → va_P D vwCl (rl lo n1 u) H1 → H1.size = lo + n1 → va_S (fun q : Nat => lo ≤ q) H0 H1 locs1 → W p l e R s m args below meth c H1 locs1 (cells + mc) (slots + ms) Q (F0 m (pc + 3) ls (.int v :: rest))) : W p l e R s m args below meth c H locs cells slots Q (F0 m pc ls st0) :=
  va_calli hr hS (fun _ _ h => h) (fun _ h => h) fun r u t H1 locs1 ht hvm hw hB _ _ hS1 => kk r u.1 u.2 H1 locs1 hw (by rw [← ht]; exact hB.1) (by rw [← ht]; exact hB.2) hS1
end
section
variable {cy : Nat → ClassId} {w u : Nat → va_E} {A : Nat → Prop} {lo n t b d d' wo nd : Nat} {wr : Nat → Nat} {G T P G' T' P' : Mem}
theorem cell_k {ce k j : Nat} {r x y z : Int32} (h : ¬ (k = 5 + 2 * ce ∧ j = 0)) (h2 : k ≠ 6 + 2 * ce) : m_cell G ce r x y z k j = G k j := by
  unfold m_cell
  rw [u2_ne (by omega), u2_ne (by omega), u2_ne (by omega), u2_ne h]
theorem cell_pr {ce : Nat} {r x y z : Int32} : m_pressure (m_cell G ce r x y z) ce = 100 * (x + y + z) / r := by
  have e0 : m_cell G ce r x y z (5 + 2 * ce) 0 = r := by
    unfold m_cell
    rw [u2_ne (by omega), u2_ne (by omega), u2_ne (by omega), u2_same]
  have e1 : m_cell G ce r x y z (6 + 2 * ce) 0 = x := by
    unfold m_cell
    rw [u2_ne (by omega), u2_ne (by omega), u2_same]
  have e2 : m_cell G ce r x y z (6 + 2 * ce) 1 = y := by
    unfold m_cell
    rw [u2_ne (by omega), u2_same]
  have e3 : m_cell G ce r x y z (6 + 2 * ce) 2 = z := by
    unfold m_cell
    rw [u2_same]
  unfold m_pressure m_all
  rw [e0, e1, e2, e3]
/-- the run behind lay -/
def lw (cy : Nat → ClassId) (w : Nat → va_E) (t q ce : Nat) (R : Nat → Int32) (f : Nat → Option Nat) (r : Nat → Int32) (ro : Int32) : Nat → va_E := va_up (va_up (va_up w q (.inl (cy 0, 3, .inl r))) (t + 119) (.inl (cy 0, 16, .inl (upd R ce ro)))) (t + 120) (.inl (cy 6, 16, .inr (.inr (.inr (.inr (va_up f ce (some q)))))))
theorem lw_out {q ce a : Nat} {R : Nat → Int32} {f : Nat → Option Nat} {r : Nat → Int32} {ro : Int32} (h : a ≠ q ∧ a ≠ t + 119 ∧ a ≠ t + 120) : lw cy w t q ce R f r ro a = w a := (xu_ne h.2.2).trans ((xu_ne h.2.1).trans (xu_ne h.1))
theorem TW.lay (h : TW cy w A lo n t b d wo wr nd G T P) {ce : Nat} (hc : ce < 16) {R : Nat → Int32} {f : Nat → Option Nat} (hf : w (t + 120) = .inl (cy 6, 16, .inr (.inr (.inr (.inr f))))) {r : Nat → Int32} {ro x y z : Int32} : TW cy (pw cy (lw cy w t (lo + n) ce R f r ro) (t + 1) (m_cell G ce ro x y z) T P) (fun a => A a ∨ a = lo + n) lo (n + 1) t b d wo wr nd (m_cell G ce ro x y z) T P := by
  have htb := h.tb
  have ho : ∀ a, A a → a ≠ lo + n := fun a ha => by have := (h.inn a ha).2; omega
  have hk : ∀ a, a ≠ lo + n ∧ a ≠ t + 119 ∧ a ≠ t + 120 → (a < t + 1 ∨ t + 1 + 118 ≤ a) → pw cy (lw cy w t (lo + n) ce R f r ro) (t + 1) (m_cell G ce ro x y z) T P a = w a := fun a h1 h2 => (pw_out h2).trans (lw_out h1)
  obtain ⟨f', hf', hy⟩ := h.has
  rw [hf] at hf'
  cases hf'
  refine ⟨(hk t (by omega) (by omega)).trans (by rw [cell_k (by omega) (by omega)]; exact h.obj), pw_pw, ⟨upd R ce ro, (pw_out (by omega)).trans ((xu_ne (by omega)).trans (xu_same _ _ _))⟩, ⟨va_up f ce (some (lo + n)), (pw_out (by omega)).trans (xu_same _ _ _), fun i hi => ?_⟩, (hk _ (by omega) (by omega)).trans h.shut, fun i hi => ?_, ?_, ⟨Or.inl h.woA.1, h.woA.2⟩, fun i hi => ⟨Or.inl (h.wrA i hi).1, (h.wrA i hi).2⟩, h.wrI, fun i hi => ?_, ?_, fun a h1 h2 => Or.inl (h.own a h1 h2), fun a ha => ?_⟩
  · by_cases e : i = ce
    · subst e
      exact ⟨lo + n, r, xu_same _ _ _, Or.inr rfl, by omega, (pw_out (by omega)).trans ((xu_ne (by omega)).trans ((xu_ne (by omega)).trans (xu_same _ _ _)))⟩
    · obtain ⟨y, r1, h1, h2, h3, h4⟩ := hy i hi
      have hne : y ≠ t + 120 := fun q => by
        rw [q, hf] at h4
        simp at h4
      exact ⟨y, r1, (xu_ne e).trans h1, Or.inl h2, h3, (hk y ⟨ho y h2, by omega, hne⟩ (by omega)).trans h4⟩
  · obtain ⟨r1, h1, h2, h3⟩ := h.shutR i hi
    exact ⟨r1, (hk _ (by omega) (by omega)).trans h1, by rw [cell_k (by omega) (by omega)]; exact h2, by rw [cell_k (by omega) (by omega)]; exact h3⟩
  · obtain ⟨f1, h1, h2⟩ := h.wells
    have := ho wo h.woA.1
    have := h.woA.2
    exact ⟨f1, (hk wo (by omega) (by omega)).trans h1, h2⟩
  · obtain ⟨r1, h1, h2, h3, h4, h5⟩ := h.row i hi
    have := ho (wr i) (h.wrA i hi).1
    have := (h.wrA i hi).2
    exact ⟨r1, (hk _ (by omega) (by omega)).trans h1, by rw [cell_k (by omega) (by omega)]; exact h2, by rw [cell_k (by omega) (by omega)]; exact h3, by rw [cell_k (by omega) (by omega)]; exact h4, h5⟩
  · obtain ⟨r1, h1, h2⟩ := h.caps
    exact ⟨r1, (hk _ (by omega) (by omega)).trans h1, fun j hj => by rw [cell_k (by omega) (by omega)]; exact h2 j hj⟩
  · rcases ha with ha | rfl
    · have := h.inn a ha
      omega
    · omega
end
set_option maxRecDepth 100000 in
set_option maxHeartbeats 4000000 in
/-- Told.lay -/
theorem c_X7_lay (l : Launch) (D : va_G) (cy : Nat → ClassId) (lo n : Nat) (w : Nat → va_E) (b L : Nat) (xs : Nat → Int32) (hbl : b < lo) (A : Nat → Prop) (t d wo : Nat) (wr : Nat → Nat) (nd : Nat) (G T P : Mem) (hT : TW cy w A lo n t b d wo wr nd G T P) (ce : Nat) (hc : ce < 16) (r x y z : Int32) (hr1 : 10 ≤ r) (hr2 : r ≤ 90) (ho3 : 0 ≤ x) (ho4 : x ≤ 99) (hw1 : 0 ≤ y) (hw2 : y ≤ 99) (hg3 : 0 ≤ z) (hg4 : z ≤ 99) : Met l yX7_lay wsX7_lay ({ frames := 3, cells := 1, slots := 3, locals := 68 }) (PcZ D cy lo n w b L xs [.ref t, .int (nI ce), .int r, .int x, .int y, .int z]) (QzT D lo (fun v n1 u => v = 1 ∧ n1 = n + 1 ∧ TW cy u (fun a => A a ∨ a = lo + n) lo (n + 1) t b d wo wr nd (m_cell G ce r x y z) T P ∧ Fr (fun a => A a ∨ a = lo + n) w u)) 1 3 (fun q : Nat => lo ≤ q) := by
  refine Met.ofW (cc := cX7_lay) (maxL := 7) (ret := (some .boolean)) (by decide) rfl ?_
  intro p e s m args below meth c s₁ B hml hv
  obtain ⟨rfl, hP, hK, hS, hX, hZ⟩ := x_entryZ hv
  have hx := B.exec
  have hb := B.bytes
  have hr := B.returns
  have hts := atoms_spec (ws := wsX7_lay) B.pre
  have hown : s.vm.findClass RX7 = some m.cls := findClass_of_methodNamed B.named
  have iX7 : ∀ w ∈ u_ws RX7 TX7 13, w ∈ wsX7_lay := by decide +kernel
  have hl := lv_entry ([.ref t, .int (nI ce), .int r, .int x, .int y, .int z]) (n := 7) (Nat.le_of_ble_eq_true rfl)
  rw [lg_entry_eq]
  generalize (lg_sl ([.ref t, .int (nI ce), .int r, .int x, .int y, .int z]) ++ List.replicate (7 - (lg_sl ([.ref t, .int (nI ce), .int r, .int x, .int y, .int z])).length) Slot.unset).toArray = ls at hl ⊢
  have hl : lv_has ls 7 [(0, .ref t), (1, .int (nI ce)), (2, .int r), (3, .int x), (4, .int y), (5, .int z)] := hl
  have htb := hT.tb
  obtain ⟨R, hR⟩ := hT.rooms
  obtain ⟨f, hf, hfy⟩ := hT.has
  have harr : (Cond.arrayClass (newarray.typeOf .int)).before ([.ref t, .int (nI ce), .int r, .int x, .int y, .int z] : List Value).toArray s = true := hts (.arrayClass .int) (by decide +kernel)
  refine lv_iconst (v := 3) hx hb dX7_lay_0 (by decide) ?_
  refine x_newi hx hb harr hK.1 hP hS (by omega) (by omega) (N := 3) 0 rfl (by decide) (by decide) (by omega) (Nat.le_of_ble_eq_true rfl) (Nat.le_of_ble_eq_true rfl) dX7_lay_1 (fun H hP hS => ?_)
  refine lv_dup hx hb dX7_lay_3 rfl ?_
  refine lv_iconst (v := 0) hx hb dX7_lay_4 (by decide) ?_
  refine lv_iload_n hx hb dX7_lay_5 rfl (lv_at hl 3 rfl) ?_
  refine x_iast hx hb hK.1 hP hS (by omega) (by omega) 0 (xu_same _ _ _) rfl (cl_of_nI (i := 0) rfl (by omega)) (vp_in_of_nI (i := 0) rfl (by omega) (by omega)) dX7_lay_6 (fun H locs hP hS => ?_)
  refine lv_dup hx hb dX7_lay_7 rfl ?_
  refine lv_iconst (v := 1) hx hb dX7_lay_8 (by decide) ?_
  refine lv_iload hx hb dX7_lay_9 (lv_at hl 4 rfl) ?_
  refine x_iast hx hb hK.1 hP hS (by omega) (by omega) 0 (xu_same _ _ _) rfl (cl_of_nI (i := 1) rfl (by omega)) (vp_in_of_nI (i := 1) rfl (by omega) (by omega)) dX7_lay_11 (fun H locs hP hS => ?_)
  refine lv_dup hx hb dX7_lay_12 rfl ?_
  refine lv_iconst (v := 2) hx hb dX7_lay_13 (by decide) ?_
  refine lv_iload hx hb dX7_lay_14 (lv_at hl 5 rfl) ?_
  refine x_iast hx hb hK.1 hP hS (by omega) (by omega) 0 (xu_same _ _ _) rfl (cl_of_nI (i := 2) rfl (by omega)) (vp_in_of_nI (i := 2) rfl (by omega) (by omega)) dX7_lay_16 (fun H locs hP hS => ?_)
  rw [xu_xu, xu_xu, xu_xu] at hP
  have hr3 : (upd (upd (upd (fun _ => (0 : Int32)) 0 x) 1 y) 2 z) 0 + (upd (upd (upd (fun _ => (0 : Int32)) 0 x) 1 y) 2 z) 1 + (upd (upd (upd (fun _ => (0 : Int32)) 0 x) 1 y) 2 z) 2 = x + y + z := rfl
  generalize upd (upd (upd (fun _ => (0 : Int32)) 0 x) 1 y) 2 z = rr at hP hr3
  refine lv_astore (lv' := [(6, .ref (lo + n)), (0, .ref t), (1, .int (nI ce)), (2, .int r), (3, .int x), (4, .int y), (5, .int z)]) hx hb dX7_lay_17 hl (by decide) rfl (fun ls hl => ?_)
  refine lv_aload_n hx hb dX7_lay_19 rfl (lv_at hl 1 rfl) ?_
  refine x_get (ref := RX7) (C := RX7) (T := TX7) (N := 13) (ci := 7) (v := .ref (t + 119)) hx hb hts iX7 hown hK.1 hP (by omega) (by omega) ((xu_ne (by omega)).trans hT.obj) rfl 3 (by decide) (hts (.fieldLink RX7 16 "PoreFieldLaw$Told" "rooms" "[I") (by decide +kernel)) (fun _ h9 => h9) rfl dX7_lay_20 ?_
  refine lv_iload_n hx hb dX7_lay_23 rfl (lv_at hl 2 rfl) ?_
  refine lv_iload_n hx hb dX7_lay_24 rfl (lv_at hl 3 rfl) ?_
  refine x_iast hx hb hK.1 hP hS (by omega) (by omega) 0 ((xu_ne (by omega)).trans hR) rfl (cl_of_nI (i := ce) rfl (by omega)) (vp_in_of_nI (i := ce) rfl (by omega) (by omega)) dX7_lay_25 (fun H locs hP hS => ?_)
  refine lv_aload_n hx hb dX7_lay_26 rfl (lv_at hl 1 rfl) ?_
  refine x_get (ref := RX7) (C := RX7) (T := TX7) (N := 13) (ci := 7) (v := .ref (t + 120)) hx hb hts iX7 hown hK.1 hP (by omega) (by omega) ((xu_ne (by omega)).trans ((xu_ne (by omega)).trans hT.obj)) rfl 4 (by decide) (hts (.fieldLink RX7 22 "PoreFieldLaw$Told" "has" "[[I") (by decide +kernel)) (fun _ h9 => h9) rfl dX7_lay_27 ?_
  refine lv_iload_n hx hb dX7_lay_30 rfl (lv_at hl 2 rfl) ?_
  refine lv_aload hx hb dX7_lay_31 (lv_at hl 0 rfl) ?_
  refine x_aastA hx hb hK.1 hK.2.2.2.2.1 hP hS (by omega) (by omega) (by omega) (by omega) 6 0 ((xu_ne (by omega)).trans ((xu_ne (by omega)).trans hf)) rfl ((xu_ne (by omega)).trans (xu_same _ _ _)) rfl (cl_of_nI (i := ce) rfl (by omega)) (vp_in_of_nI (i := ce) rfl (by omega) (by omega)) dX7_lay_33 (fun H locs hP hS => ?_)
  have hP : va_P D vwCl (rl lo (n + 1) (lw cy w t (lo + n) ce R f rr r)) H := hP
  have hobj : lw cy w t (lo + n) ce R f rr r t = .inr (7, tF t b d wo (G 0 4)) := (lw_out (by omega)).trans hT.obj
  refine lv_aload_n hx hb dX7_lay_34 rfl (lv_at hl 1 rfl) ?_
  refine x_get (ref := RX7) (C := RX7) (T := TX7) (N := 13) (ci := 7) (v := .ref (t + 1)) hx hb hts iX7 hown hK.1 hP (by omega) (by omega) hobj rfl 0 (by decide) (hts (.fieldLink RX7 10 "PoreFieldLaw$Told" "m" "LPoreField;") (by decide +kernel)) (fun _ h9 => h9) rfl dX7_lay_35 ?_
  refine lv_iload_n hx hb dX7_lay_38 rfl (lv_at hl 2 rfl) ?_
  refine lv_iload_n hx hb dX7_lay_39 rfl (lv_at hl 3 rfl) ?_
  refine lv_iload_n hx hb dX7_lay_40 rfl (lv_at hl 4 rfl) ?_
  refine lv_iload hx hb dX7_lay_41 (lv_at hl 5 rfl) ?_
  refine lv_iload hx hb dX7_lay_43 (lv_at hl 6 rfl) ?_
  have hpf : pw cy (lw cy w t (lo + n) ce R f rr r) (t + 1) G T P = lw cy w t (lo + n) ce R f rr r := pw_ext hT.pf (fun a h1 h2 => lw_out (by omega))
  have hP := TW.to hpf hP
  refine x_calli (va_runV (As := [.int (nI ce), .int r, .int x, .int y, .int z]) (rest := []) ⟨hx, hb, hml, hown, hts⟩ (c_X6_cell l D cy lo (n + 1) (lw cy w t (lo + n) ce R f rr r) (t + 1) G T P (by omega) (by omega) ce hc r x y z hr1 hr2 ho3 ho4 hw1 hw2 hg3 hg4) (cwV 5 hts gX7_lay_X6_cell rfl rfl rfl (by decide +kernel) ⟨Nat.le_of_ble_eq_true rfl, Nat.le_of_ble_eq_true rfl⟩) (preV hP hK (x_recv (ci := 6) (q := (RX6, TX6, 11)) hK.1 hP (by omega) (by omega) rfl ((gw_out (by omega)).trans ((gw_out (by omega)).trans hw_0)))) rfl rfl hl.1 rfl (lv_room (Nat.le_of_ble_eq_true rfl)) dX7_lay_45 ⟨Nat.le_of_ble_eq_true rfl, Nat.le_of_ble_eq_true rfl⟩) hS (fun H locs hP hS => ?_)
  refine lv_aload_n hx hb dX7_lay_48 rfl (lv_at hl 1 rfl) ?_
  refine lv_iload_n hx hb dX7_lay_49 rfl (lv_at hl 2 rfl) ?_
  have hTT := hT.lay (ce := ce) hc (R := R) hf (r := rr) (ro := r) (x := x) (y := y) (z := z)
  have hne : ¬ upd R ce r ce = 0 := by
    show ¬ (if ce = ce then r else R ce) = 0
    rw [if_pos rfl]
    intro q
    subst q
    exact absurd hr1 (by decide)
  refine x_calli (va_runV (As := [.int (nI ce)]) (rest := [.int (m_pressure (m_cell G ce r x y z) ce)]) ⟨hx, hb, hml, hown, hts⟩ (c_X7_pressure l D cy lo (n + 1) (pw cy (lw cy w t (lo + n) ce R f rr r) (t + 1) (m_cell G ce r x y z) T P) b L xs t d wo _ (by omega) (by omega) hTT.obj ce hc (f := va_up f ce (some (lo + n))) ((pw_out (by omega)).trans (xu_same _ _ _)) (y := lo + n) (xu_same _ _ _) (by omega) (by omega) (r := rr) ((pw_out (by omega)).trans ((xu_ne (by omega)).trans ((xu_ne (by omega)).trans (xu_same _ _ _)))) (ro := upd R ce r) ((pw_out (by omega)).trans ((xu_ne (by omega)).trans (xu_same _ _ _))) hne hbl) (cwV 1 hts gX7_lay_X7_pressure rfl rfl rfl (by decide +kernel) ⟨Nat.le_of_ble_eq_true rfl, Nat.le_of_ble_eq_true rfl⟩) (preVT hP hK (x_scr hX hbl hS) (x_recv (ci := 7) (q := (RX7, TX7, 13)) hK.1 hP (by omega) (by omega) rfl hTT.obj)) rfl rfl hl.1 rfl (lv_room (Nat.le_of_ble_eq_true rfl)) dX7_lay_50 ⟨Nat.le_of_ble_eq_true rfl, Nat.le_of_ble_eq_true rfl⟩) hS (fun H locs hP hS => ?_)
  have hq : m_pressure (m_cell G ce r x y z) ce = 100 * (rr 0 + rr 1 + rr 2) / upd R ce r ce := by
    rw [cell_pr, hr3]
    show _ = _ / (if ce = ce then r else R ce)
    rw [if_pos rfl]
  refine lv_icmp_ne (tgt := 60) hx hb dX7_lay_53 (by decide) (fun h1 => absurd hq h1) (fun h1 => ?_)
  refine lv_iconst (v := 1) hx hb dX7_lay_56 (by decide) ?_
  refine lv_goto (tgt := 61) hx hb dX7_lay_57 (by decide) ?_
  refine x_size fun hz1 => ?_
  have hz2 := (rl_one hP (a := lo + n) (by omega) (by omega)).lt
  exact W.zret (v := 1) hx hb hr rfl (fun tE ht hW => ⟨⟨_, (n + 1, _), rfl, ⟨rfl, rfl, hTT, fun a ha => (pw_out (by
    by_cases e : a < t + 1 ∨ t + 1 + 118 ≤ a
    · exact e
    · exact absurd (Or.inl (hT.own a (by omega) (by omega))) ha)).trans (lw_out ⟨fun e => ha (Or.inr e), fun e => ha (Or.inl (hT.own a (by omega) (by omega))), fun e => ha (Or.inl (hT.own a (by omega) (by omega)))⟩)⟩, x_at ht hP, by rw [ht]; show H.size = lo + (n + 1); omega⟩, hS.F ht⟩) hS.2.2 dX7_lay_61
