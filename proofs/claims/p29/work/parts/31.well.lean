/-! Told.well -/
theorem nI_nn {k : Nat} (h : k < 2 ^ 31) : ¬ nI k < 0 := fun q => by
  have := (nI_ltI (a := k) (b := 0) h (by omega)).mp q
  omega
section
variable {p : Program} {l : Launch} {e : Env} {R : Room} {s : State} {m : MethodId} {args : Array Value} {below : List Frame} {meth : Method} {c : Code} {H : Heap} {locs : List Loc} {cells slots : Nat} {Q : State → Prop}
variable {cc : ByteArray} {pc : Nat} {ls : Array Slot} {rest : List Value} {D : va_G} {cl : List vw_C} {a : Nat} {tys : List (ClassId × FieldType)} {H0 : Heap} {lo n : Nat} {w : Nat → va_E}
theorem x_alenA (hexec : p.tables.exec = Jvm.exec) (hb : c.code = cc) (hK : va_K D cl tys s) (hP : va_P D cl (rl lo n w) H) (h1 : lo ≤ a) (h2 : a < lo + n) (t0 : Nat) {cA : ClassId} {t : FieldType} {N : Nat} {f : Nat → Option Nat} (ha : w a = .inl (cA, N, .inr (.inr (.inr (.inr f))))) (ht : tys[t0]? = some (cA, t)) (hdg : decode cc pc = .ok (.arraylength, 1))
    (kk : W p l e R s m args below meth c H locs cells slots Q (F0 m (pc + 1) ls (.int (nI N) :: rest))) : W p l e R s m args below meth c H locs cells slots Q (F0 m pc ls (.ref a :: rest)) := by
  have hPa := rl_one hP h1 h2
  rw [ha] at hPa
  exact W.alen (n := nI N) hexec hb hPa ((hK.2 t0 _ ht).1 N (fun j => va_rf (f j))) (by show (arrV cA N _).slots.size.toInt32 = _; rw [arrV_size]; rfl) rfl rfl hdg kk
end
section
variable {cy : Nat → ClassId} {w u : Nat → va_E} {A : Nat → Prop} {lo n t b d d' wo nd : Nat} {wr : Nat → Nat} {G T P G' T' P' : Mem}
/-- the run behind well -/
def ww (cy : Nat → ClassId) (w : Nat → va_E) (t q b d nd : Nat) (pe : Int32) (f : Nat → Option Nat) (r : Nat → Int32) : Nat → va_E := va_up (va_up (va_up w q (.inl (cy 6, nd + 1, .inr (.inr (.inr (.inr (va_up (va_cpy f (fun _ => none) 0 0 nd) nd (some (q + 1))))))))) (q + 1) (.inl (cy 0, 14, .inl r))) t (.inr (7, tF t b d q pe))
theorem ww_out {q a : Nat} {pe : Int32} {f : Nat → Option Nat} {r : Nat → Int32} (h : a ≠ q ∧ a ≠ q + 1 ∧ a ≠ t) : ww cy w t q b d nd pe f r a = w a := (xu_ne h.2.2).trans ((xu_ne h.2.1).trans (xu_ne h.1))
/-- the ground behind well -/
def m_wellG (G : Mem) (nd ce : Nat) (kd : Int32) : Mem := u2 (u2 (u2 G (37 + 2 * nd) 0 kd) (37 + 2 * nd) 1 (nI ce)) 0 2 (G 0 2 + 1)
theorem wellG_k {ce k j : Nat} {kd : Int32} (h : ¬ (k = 37 + 2 * nd ∧ (j = 0 ∨ j = 1))) (h2 : ¬ (k = 0 ∧ j = 2)) : m_wellG G nd ce kd k j = G k j := by
  unfold m_wellG
  rw [u2_ne h2, u2_ne (by omega), u2_ne (by omega)]
theorem TW.well (h : TW cy w A lo n t b d wo wr nd G T P) (hnd : nd < 6) {ce : Nat} {kd : Int32} {f : Nat → Option Nat} (hfi : ∀ i, i < nd → f i = some (wr i)) {r : Nat → Int32} (hr : r 0 = kd ∧ r 2 = G (37 + 2 * nd) 2 ∧ r 3 = G (37 + 2 * nd) 3 ∧ r 4 = P (103 + 2 * nd) 0 ∧ r 13 = P (103 + 2 * nd) 1) : TW cy (pw cy (ww cy w t (lo + n) b d nd (G 0 4) f r) (t + 1) (m_wellG G nd ce kd) T P) (fun a => A a ∨ a = lo + n ∨ a = lo + n + 1) lo (n + 2) t b d (lo + n) (fun i => if i = nd then lo + n + 1 else wr i) (nd + 1) (m_wellG G nd ce kd) T P := by
  have htb := h.tb
  have ho : ∀ a, A a → a < lo + n := fun a ha => (h.inn a ha).2
  have hk : ∀ a, a ≠ lo + n ∧ a ≠ lo + n + 1 ∧ a ≠ t → (a < t + 1 ∨ t + 1 + 118 ≤ a) → pw cy (ww cy w t (lo + n) b d nd (G 0 4) f r) (t + 1) (m_wellG G nd ce kd) T P a = w a := fun a h1 h2 => (pw_out h2).trans (ww_out h1)
  refine ⟨(pw_out (by omega)).trans ((xu_same _ _ _).trans (by rw [wellG_k (by omega) (by omega)])), pw_pw, ?_, ?_, (hk _ (by omega) (by omega)).trans h.shut, fun i hi => ?_, ⟨va_up (va_cpy f (fun _ => none) 0 0 nd) nd (some (lo + n + 1)), (pw_out (by omega)).trans ((xu_ne (by omega)).trans ((xu_ne (by omega)).trans (xu_same _ _ _))), fun i hi => ?_⟩, ⟨Or.inr (Or.inl rfl), by omega⟩, fun i hi => ?_, fun i j hi hj e => ?_, fun i hi => ?_, ?_, fun a h1 h2 => Or.inl (h.own a h1 h2), fun a ha => ?_⟩
  · obtain ⟨r1, h1⟩ := h.rooms
    exact ⟨r1, (hk _ (by omega) (by omega)).trans h1⟩
  · obtain ⟨f1, h1, hy⟩ := h.has
    refine ⟨f1, (hk _ (by omega) (by omega)).trans h1, fun i hi => ?_⟩
    obtain ⟨y, r1, g1, g2, g3, g4⟩ := hy i hi
    have := ho y g2
    exact ⟨y, r1, g1, Or.inl g2, g3, (hk y (by omega) (by omega)).trans g4⟩
  · obtain ⟨r1, h1, h2, h3⟩ := h.shutR i hi
    exact ⟨r1, (hk _ (by omega) (by omega)).trans h1, by rw [wellG_k (by omega) (by omega)]; exact h2, by rw [wellG_k (by omega) (by omega)]; exact h3⟩
  · by_cases e : i = nd
    · subst e
      show va_up _ i (some (lo + n + 1)) i = some (if i = i then lo + n + 1 else wr i)
      rw [xu_same, if_pos rfl]
    · show va_up _ nd (some (lo + n + 1)) i = some (if i = nd then lo + n + 1 else wr i)
      rw [xu_ne e, if_neg e]
      unfold va_cpy
      rw [if_pos (by omega), ← hfi i (by omega)]
      congr 1
      omega
  · by_cases e : i = nd
    · have e' : (if i = nd then lo + n + 1 else wr i) = lo + n + 1 := if_pos e
      exact ⟨Or.inr (Or.inr e'), by show t + 157 ≤ (if i = nd then lo + n + 1 else wr i); rw [e']; omega⟩
    · have e' : (if i = nd then lo + n + 1 else wr i) = wr i := if_neg e
      exact ⟨Or.inl (by show A (if i = nd then lo + n + 1 else wr i); rw [e']; exact (h.wrA i (by omega)).1), by show t + 157 ≤ (if i = nd then lo + n + 1 else wr i); rw [e']; exact (h.wrA i (by omega)).2⟩
  · have e : (if i = nd then lo + n + 1 else wr i) = (if j = nd then lo + n + 1 else wr j) := e
    by_cases ei : i = nd
    · by_cases ej : j = nd
      · omega
      · rw [if_pos ei, if_neg ej] at e
        have := ho _ (h.wrA j (by omega)).1
        omega
    · by_cases ej : j = nd
      · rw [if_neg ei, if_pos ej] at e
        have := ho _ (h.wrA i (by omega)).1
        omega
      · rw [if_neg ei, if_neg ej] at e
        exact h.wrI i j (by omega) (by omega) e
  · show ∃ r1 : Nat → Int32, pw cy (ww cy w t (lo + n) b d nd (G 0 4) f r) (t + 1) (m_wellG G nd ce kd) T P (if i = nd then lo + n + 1 else wr i) = _ ∧ _
    by_cases e : i = nd
    · subst e
      rw [if_pos rfl]
      refine ⟨r, (pw_out (by omega)).trans ((xu_ne (by omega)).trans (xu_same _ _ _)), ?_, ?_, ?_, hr.2.2.2.1, hr.2.2.2.2⟩
      · unfold m_wellG
        rw [u2_ne (by omega), u2_ne (by omega), u2_same]
        exact hr.1
      · rw [wellG_k (by omega) (by omega)]
        exact hr.2.1
      · rw [wellG_k (by omega) (by omega)]
        exact hr.2.2.1
    · rw [if_neg e]
      obtain ⟨r1, h1, h2, h3, h4, h5⟩ := h.row i (by omega)
      have hA := h.wrA i (by omega)
      have := ho _ hA.1
      exact ⟨r1, (hk _ (by omega) (by omega)).trans h1, by rw [wellG_k (by omega) (by omega)]; exact h2, by rw [wellG_k (by omega) (by omega)]; exact h3, by rw [wellG_k (by omega) (by omega)]; exact h4, h5⟩
  · obtain ⟨r1, h1, h2⟩ := h.caps
    exact ⟨r1, (hk _ (by omega) (by omega)).trans h1, fun j hj => by rw [wellG_k (by omega) (by omega)]; exact h2 j hj⟩
  · rcases ha with ha | rfl | rfl
    · have := h.inn a ha
      omega
    · omega
    · omega
end
set_option maxRecDepth 100000 in
set_option maxHeartbeats 4000000 in
/-- Told.well -/
theorem c_X7_well (l : Launch) (D : va_G) (cy : Nat → ClassId) (lo n : Nat) (w : Nat → va_E) (b L : Nat) (xs : Nat → Int32) (hbl : b < lo) (A : Nat → Prop) (t d wo : Nat) (wr : Nat → Nat) (nd : Nat) (G T P : Mem) (hT : TW cy w A lo n t b d wo wr nd G T P) (hG : GI nd G) (hnd : nd < 6) (kd : Int32) (hk1 : 0 ≤ kd) (hk2 : kd ≤ 2) (ce : Nat) (hc : ce < 16) (hfr : G (37 + 2 * nd) 2 = 0 ∧ G (37 + 2 * nd) 3 = 5 ∧ P (103 + 2 * nd) 0 = 0 ∧ P (103 + 2 * nd) 1 = 0) : Met l yX7_well wsX7_well ({ frames := 2, cells := 2, slots := 21, locals := 80 }) (PcZ D cy lo n w b L xs [.ref t, .int kd, .int (nI ce)]) (QzT D lo (fun v n1 u => v = 1 ∧ n1 = n + 2 ∧ TW cy u (fun a => A a ∨ a = lo + n ∨ a = lo + n + 1) lo (n + 2) t b d (lo + n) (fun i => if i = nd then lo + n + 1 else wr i) (nd + 1) (m_wellG G nd ce kd) T P ∧ Fr (fun a => A a ∨ a = lo + n ∨ a = lo + n + 1) w u)) 2 21 (fun q : Nat => lo ≤ q) := by
  refine Met.ofW (cc := cX7_well) (maxL := 5) (ret := (some .boolean)) (by decide) rfl ?_
  intro p e s m args below meth c s₁ B hml hv
  obtain ⟨rfl, hP, hK, hS, hX, hZ⟩ := x_entryZ hv
  have hx := B.exec
  have hb := B.bytes
  have hr := B.returns
  have hts := atoms_spec (ws := wsX7_well) B.pre
  have hown : s.vm.findClass RX7 = some m.cls := findClass_of_methodNamed B.named
  have iX7 : ∀ w ∈ u_ws RX7 TX7 13, w ∈ wsX7_well := by decide +kernel
  have hl := lv_entry ([.ref t, .int kd, .int (nI ce)]) (n := 5) (Nat.le_of_ble_eq_true rfl)
  rw [lg_entry_eq]
  generalize (lg_sl ([.ref t, .int kd, .int (nI ce)]) ++ List.replicate (5 - (lg_sl ([.ref t, .int kd, .int (nI ce)])).length) Slot.unset).toArray = ls at hl ⊢
  have hl : lv_has ls 5 [(0, .ref t), (1, .int kd), (2, .int (nI ce))] := hl
  have htb := hT.tb
  have hwo := hT.inn wo hT.woA.1
  have hwo2 := hT.woA.2
  obtain ⟨f, hf, hfi⟩ := hT.wells
  have hcl : (Cond.classLink RX7 30 (FieldType.array .int).toString).before ([.ref t, .int kd, .int (nI ce)] : List Value).toArray s = true := hts (.classLink RX7 30 "[I") (by decide +kernel)
  have harr : (Cond.arrayClass (newarray.typeOf .int)).before ([.ref t, .int kd, .int (nI ce)] : List Value).toArray s = true := hts (.arrayClass .int) (by decide +kernel)
  refine lv_aload_n hx hb dX7_well_0 rfl (lv_at hl 0 rfl) ?_
  refine x_get (ref := RX7) (C := RX7) (T := TX7) (N := 13) (ci := 7) (v := .ref wo) hx hb hts iX7 hown hK.1 hP (by omega) (by omega) hT.obj rfl 6 (by decide) (hts (.fieldLink RX7 31 "PoreFieldLaw$Told" "wells" "[[I") (by decide +kernel)) (fun _ h9 => h9) rfl dX7_well_1 ?_
  refine x_alenA hx hb hK.1 hP (by omega) (by omega) 6 hf rfl dX7_well_4 ?_
  refine lv_iconst (v := 1) hx hb dX7_well_5 (by decide) ?_
  refine lv_iadd hx hb dX7_well_6 ?_
  rw [nI_1]
  refine x_newA hx hb hown hcl hK.2.2.2.2.1 hK.1 hP hS (by omega) (by omega) (N := nd + 1) 6 rfl (nI_nn (by omega)) (nI_clamp (by omega)) (by omega) (Nat.le_of_ble_eq_true rfl) (by show 0 + (nd + 1) ≤ 21; omega) dX7_well_7 (fun H hP hS => ?_)
  refine lv_astore_n (lv' := [(3, .ref (lo + n)), (0, .ref t), (1, .int kd), (2, .int (nI ce))]) hx hb dX7_well_10 rfl hl (by decide) rfl (fun ls hl => ?_)
  refine lv_aload_n hx hb dX7_well_11 rfl (lv_at hl 1 rfl) ?_
  refine x_get (ref := RX7) (C := RX7) (T := TX7) (N := 13) (ci := 7) (v := .ref wo) hx hb hts iX7 hown hK.1 hP (by omega) (by omega) ((xu_ne (by omega)).trans hT.obj) rfl 6 (by decide) (hts (.fieldLink RX7 31 "PoreFieldLaw$Told" "wells" "[[I") (by decide +kernel)) (fun _ h9 => h9) rfl dX7_well_12 ?_
  refine lv_iconst (v := 0) hx hb dX7_well_15 (by decide) ?_
  refine lv_aload_n hx hb dX7_well_16 rfl (lv_at hl 0 rfl) ?_
  refine lv_iconst (v := 0) hx hb dX7_well_17 (by decide) ?_
  refine lv_aload_n hx hb dX7_well_18 rfl (lv_at hl 1 rfl) ?_
  refine x_get (ref := RX7) (C := RX7) (T := TX7) (N := 13) (ci := 7) (v := .ref wo) hx hb hts iX7 hown hK.1 hP (by omega) (by omega) ((xu_ne (by omega)).trans hT.obj) rfl 6 (by decide) (hts (.fieldLink RX7 31 "PoreFieldLaw$Told" "wells" "[[I") (by decide +kernel)) (fun _ h9 => h9) rfl dX7_well_19 ?_
  refine x_alenA hx hb hK.1 hP (by omega) (by omega) 6 ((xu_ne (by omega)).trans hf) rfl dX7_well_22 ?_
  refine x_copyA hx hb (by rw [hml]; exact hl.1.symm) hown (hts (.methodLink RX7 70 arraycopyName) (by decide +kernel)) (hts (.native arraycopyName) (by decide +kernel)) (hts (.static arraycopyName) (by decide +kernel)) (hts (.initialized "java/lang/System") (by decide +kernel)) hK.1 hK.2.2.2.2.1 hP hS 6 0 (by omega) (by omega) (by omega) (by omega) ((xu_ne (by omega)).trans hf) (xu_same _ _ _) rfl rfl (nI_nn (by omega)) (nI_clamp (by omega)) (Nat.le_refl nd) (by omega) (fun i hi => ?_) (Nat.le_of_ble_eq_true rfl) (Nat.le_of_ble_eq_true rfl) dX7_well_23 (fun H locs hP hS => ?_)
  · obtain ⟨r1, h1, -⟩ := hT.row i hi
    have := hT.inn (wr i) (hT.wrA i hi).1
    exact ⟨wr i, 14, r1, hfi i hi, by omega, by omega, (xu_ne (by omega)).trans h1⟩
  rw [xu_xu] at hP
  refine lv_bipush (v := 14) hx hb dX7_well_26 (by decide) ?_
  refine x_newi hx hb harr hK.1 hP hS (by omega) (by omega) (N := 14) 0 rfl (by decide) (by decide) (by omega) (Nat.le_of_ble_eq_true rfl) (by show 0 + (nd + 1) + 14 ≤ 21; omega) dX7_well_28 (fun H hP hS => ?_)
  refine lv_dup hx hb dX7_well_30 rfl ?_
  refine lv_iconst (v := 0) hx hb dX7_well_31 (by decide) ?_
  refine lv_iload_n hx hb dX7_well_32 rfl (lv_at hl 2 rfl) ?_
  refine x_iast hx hb hK.1 hP hS (by omega) (by omega) 0 (xu_same _ _ _) rfl (cl_of_nI (i := 0) rfl (by omega)) (vp_in_of_nI (i := 0) rfl (by omega) (by omega)) dX7_well_33 (fun H locs hP hS => ?_)
  rw [xu_xu] at hP
  refine lv_dup hx hb dX7_well_34 rfl ?_
  refine lv_iconst (v := 1) hx hb dX7_well_35 (by decide) ?_
  refine lv_iload_n hx hb dX7_well_36 rfl (lv_at hl 3 rfl) ?_
  refine x_iast hx hb hK.1 hP hS (by omega) (by omega) 0 (xu_same _ _ _) rfl (cl_of_nI (i := 1) rfl (by omega)) (vp_in_of_nI (i := 1) rfl (by omega) (by omega)) dX7_well_37 (fun H locs hP hS => ?_)
  rw [xu_xu] at hP
  refine lv_dup hx hb dX7_well_38 rfl ?_
  refine lv_iconst (v := 2) hx hb dX7_well_39 (by decide) ?_
  refine lv_iconst (v := 0) hx hb dX7_well_40 (by decide) ?_
  refine x_iast hx hb hK.1 hP hS (by omega) (by omega) 0 (xu_same _ _ _) rfl (cl_of_nI (i := 2) rfl (by omega)) (vp_in_of_nI (i := 2) rfl (by omega) (by omega)) dX7_well_41 (fun H locs hP hS => ?_)
  rw [xu_xu] at hP
  refine lv_dup hx hb dX7_well_42 rfl ?_
  refine lv_iconst (v := 3) hx hb dX7_well_43 (by decide) ?_
  refine lv_iconst (v := 5) hx hb dX7_well_44 (by decide) ?_
  refine x_iast hx hb hK.1 hP hS (by omega) (by omega) 0 (xu_same _ _ _) rfl (cl_of_nI (i := 3) rfl (by omega)) (vp_in_of_nI (i := 3) rfl (by omega) (by omega)) dX7_well_45 (fun H locs hP hS => ?_)
  rw [xu_xu] at hP
  refine lv_dup hx hb dX7_well_46 rfl ?_
  refine lv_iconst (v := 4) hx hb dX7_well_47 (by decide) ?_
  refine lv_iconst (v := 0) hx hb dX7_well_48 (by decide) ?_
  refine x_iast hx hb hK.1 hP hS (by omega) (by omega) 0 (xu_same _ _ _) rfl (cl_of_nI (i := 4) rfl (by omega)) (vp_in_of_nI (i := 4) rfl (by omega) (by omega)) dX7_well_49 (fun H locs hP hS => ?_)
  rw [xu_xu] at hP
  refine lv_dup hx hb dX7_well_50 rfl ?_
  refine lv_iconst (v := 5) hx hb dX7_well_51 (by decide) ?_
  refine lv_iconst (v := 0) hx hb dX7_well_52 (by decide) ?_
  refine x_iast hx hb hK.1 hP hS (by omega) (by omega) 0 (xu_same _ _ _) rfl (cl_of_nI (i := 5) rfl (by omega)) (vp_in_of_nI (i := 5) rfl (by omega) (by omega)) dX7_well_53 (fun H locs hP hS => ?_)
  rw [xu_xu] at hP
  refine lv_dup hx hb dX7_well_54 rfl ?_
  refine lv_bipush (v := 6) hx hb dX7_well_55 (by decide) ?_
  refine lv_iconst (v := 0) hx hb dX7_well_57 (by decide) ?_
  refine x_iast hx hb hK.1 hP hS (by omega) (by omega) 0 (xu_same _ _ _) rfl (cl_of_nI (i := 6) rfl (by omega)) (vp_in_of_nI (i := 6) rfl (by omega) (by omega)) dX7_well_58 (fun H locs hP hS => ?_)
  rw [xu_xu] at hP
  refine lv_dup hx hb dX7_well_59 rfl ?_
  refine lv_bipush (v := 7) hx hb dX7_well_60 (by decide) ?_
  refine lv_iconst (v := 0) hx hb dX7_well_62 (by decide) ?_
  refine x_iast hx hb hK.1 hP hS (by omega) (by omega) 0 (xu_same _ _ _) rfl (cl_of_nI (i := 7) rfl (by omega)) (vp_in_of_nI (i := 7) rfl (by omega) (by omega)) dX7_well_63 (fun H locs hP hS => ?_)
  rw [xu_xu] at hP
  refine lv_dup hx hb dX7_well_64 rfl ?_
  refine lv_bipush (v := 8) hx hb dX7_well_65 (by decide) ?_
  refine lv_iconst (v := 0) hx hb dX7_well_67 (by decide) ?_
  refine x_iast hx hb hK.1 hP hS (by omega) (by omega) 0 (xu_same _ _ _) rfl (cl_of_nI (i := 8) rfl (by omega)) (vp_in_of_nI (i := 8) rfl (by omega) (by omega)) dX7_well_68 (fun H locs hP hS => ?_)
  rw [xu_xu] at hP
  refine lv_dup hx hb dX7_well_69 rfl ?_
  refine lv_bipush (v := 9) hx hb dX7_well_70 (by decide) ?_
  refine lv_iconst (v := 0) hx hb dX7_well_72 (by decide) ?_
  refine x_iast hx hb hK.1 hP hS (by omega) (by omega) 0 (xu_same _ _ _) rfl (cl_of_nI (i := 9) rfl (by omega)) (vp_in_of_nI (i := 9) rfl (by omega) (by omega)) dX7_well_73 (fun H locs hP hS => ?_)
  rw [xu_xu] at hP
  refine lv_dup hx hb dX7_well_74 rfl ?_
  refine lv_bipush (v := 10) hx hb dX7_well_75 (by decide) ?_
  refine lv_iconst (v := 0) hx hb dX7_well_77 (by decide) ?_
  refine x_iast hx hb hK.1 hP hS (by omega) (by omega) 0 (xu_same _ _ _) rfl (cl_of_nI (i := 10) rfl (by omega)) (vp_in_of_nI (i := 10) rfl (by omega) (by omega)) dX7_well_78 (fun H locs hP hS => ?_)
  rw [xu_xu] at hP
  refine lv_dup hx hb dX7_well_79 rfl ?_
  refine lv_bipush (v := 11) hx hb dX7_well_80 (by decide) ?_
  refine lv_iconst (v := 0) hx hb dX7_well_82 (by decide) ?_
  refine x_iast hx hb hK.1 hP hS (by omega) (by omega) 0 (xu_same _ _ _) rfl (cl_of_nI (i := 11) rfl (by omega)) (vp_in_of_nI (i := 11) rfl (by omega) (by omega)) dX7_well_83 (fun H locs hP hS => ?_)
  rw [xu_xu] at hP
  refine lv_dup hx hb dX7_well_84 rfl ?_
  refine lv_bipush (v := 12) hx hb dX7_well_85 (by decide) ?_
  refine lv_iconst (v := 0) hx hb dX7_well_87 (by decide) ?_
  refine x_iast hx hb hK.1 hP hS (by omega) (by omega) 0 (xu_same _ _ _) rfl (cl_of_nI (i := 12) rfl (by omega)) (vp_in_of_nI (i := 12) rfl (by omega) (by omega)) dX7_well_88 (fun H locs hP hS => ?_)
  rw [xu_xu] at hP
  refine lv_dup hx hb dX7_well_89 rfl ?_
  refine lv_bipush (v := 13) hx hb dX7_well_90 (by decide) ?_
  refine lv_iconst (v := 0) hx hb dX7_well_92 (by decide) ?_
  refine x_iast hx hb hK.1 hP hS (by omega) (by omega) 0 (xu_same _ _ _) rfl (cl_of_nI (i := 13) rfl (by omega)) (vp_in_of_nI (i := 13) rfl (by omega) (by omega)) dX7_well_93 (fun H locs hP hS => ?_)
  rw [xu_xu] at hP
  have hrr : (upd (upd (upd (upd (upd (upd (upd (upd (upd (upd (upd (upd (upd (upd (fun _ => (0 : Int32)) 0 kd) 1 (nI ce)) 2 0) 3 5) 4 0) 5 0) 6 0) 7 0) 8 0) 9 0) 10 0) 11 0) 12 0) 13 0) 0 = kd ∧ (upd (upd (upd (upd (upd (upd (upd (upd (upd (upd (upd (upd (upd (upd (fun _ => (0 : Int32)) 0 kd) 1 (nI ce)) 2 0) 3 5) 4 0) 5 0) 6 0) 7 0) 8 0) 9 0) 10 0) 11 0) 12 0) 13 0) 2 = 0 ∧ (upd (upd (upd (upd (upd (upd (upd (upd (upd (upd (upd (upd (upd (upd (fun _ => (0 : Int32)) 0 kd) 1 (nI ce)) 2 0) 3 5) 4 0) 5 0) 6 0) 7 0) 8 0) 9 0) 10 0) 11 0) 12 0) 13 0) 3 = 5 ∧ (upd (upd (upd (upd (upd (upd (upd (upd (upd (upd (upd (upd (upd (upd (fun _ => (0 : Int32)) 0 kd) 1 (nI ce)) 2 0) 3 5) 4 0) 5 0) 6 0) 7 0) 8 0) 9 0) 10 0) 11 0) 12 0) 13 0) 4 = 0 ∧ (upd (upd (upd (upd (upd (upd (upd (upd (upd (upd (upd (upd (upd (upd (fun _ => (0 : Int32)) 0 kd) 1 (nI ce)) 2 0) 3 5) 4 0) 5 0) 6 0) 7 0) 8 0) 9 0) 10 0) 11 0) 12 0) 13 0) 13 = 0 := ⟨rfl, rfl, rfl, rfl, rfl⟩
  generalize (upd (upd (upd (upd (upd (upd (upd (upd (upd (upd (upd (upd (upd (upd (fun _ => (0 : Int32)) 0 kd) 1 (nI ce)) 2 0) 3 5) 4 0) 5 0) 6 0) 7 0) 8 0) 9 0) 10 0) 11 0) 12 0) 13 0) = rr at hP hrr
  refine lv_astore (lv' := [(4, .ref (lo + (n + 1))), (3, .ref (lo + n)), (0, .ref t), (1, .int kd), (2, .int (nI ce))]) hx hb dX7_well_94 hl (by decide) rfl (fun ls hl => ?_)
  refine lv_aload_n hx hb dX7_well_96 rfl (lv_at hl 1 rfl) ?_
  refine lv_aload_n hx hb dX7_well_97 rfl (lv_at hl 2 rfl) ?_
  refine x_get (ref := RX7) (C := RX7) (T := TX7) (N := 13) (ci := 7) (v := .ref wo) hx hb hts iX7 hown hK.1 hP (by omega) (by omega) ((xu_ne (by omega)).trans ((xu_ne (by omega)).trans hT.obj)) rfl 6 (by decide) (hts (.fieldLink RX7 31 "PoreFieldLaw$Told" "wells" "[[I") (by decide +kernel)) (fun _ h9 => h9) rfl dX7_well_98 ?_
  refine x_alenA hx hb hK.1 hP (by omega) (by omega) 6 ((xu_ne (by omega)).trans ((xu_ne (by omega)).trans hf)) rfl dX7_well_101 ?_
  refine lv_aload hx hb dX7_well_102 (lv_at hl 0 rfl) ?_
  refine x_aastA hx hb hK.1 hK.2.2.2.2.1 hP hS (by omega) (by omega) (by omega) (by omega) 6 0 ((xu_ne (by omega)).trans (xu_same _ _ _)) rfl (xu_same _ _ _) rfl (cl_of_nI (i := nd) rfl (by omega)) (vp_in_of_nI (i := nd) rfl (by omega) (by omega)) dX7_well_104 (fun H locs hP hS => ?_)
  refine lv_aload_n hx hb dX7_well_105 rfl (lv_at hl 2 rfl) ?_
  refine lv_aload_n hx hb dX7_well_106 rfl (lv_at hl 1 rfl) ?_
  refine x_put (ty := tyX7 6) (ref := RX7) (C := RX7) (T := TX7) (N := 13) (ci := 7) (v := .ref (lo + n)) hx hb hts iX7 tyX7 tyX7_ok nmX7 hown hK.1 hP hS (by omega) (by omega) ((xu_ne (by omega)).trans ((xu_ne (by omega)).trans ((xu_ne (by omega)).trans hT.obj))) rfl 6 (by decide) (hts (.fieldLink RX7 31 "PoreFieldLaw$Told" "wells" "[[I") (by decide +kernel)) (fun _ h9 => h9) rfl (by decide +kernel) rfl rfl (Nat.le_of_ble_eq_true rfl) dX7_well_107 (fun H locs hP hS => ?_)
  have hwe : va_up (va_up (va_up (va_up w (lo + n) (.inl (cy 6, nd + 1, .inr (.inr (.inr (.inr (va_cpy f (fun _ => none) 0 0 nd))))))) (lo + (n + 1)) (.inl (cy 0, 14, .inl rr))) (lo + n) (.inl (cy 6, nd + 1, .inr (.inr (.inr (.inr (va_up (va_cpy f (fun _ => none) 0 0 nd) nd (some (lo + (n + 1)))))))))) t (.inr (7, tF t b d (lo + n) (G 0 4))) = ww cy w t (lo + n) b d nd (G 0 4) f rr := by
    unfold ww
    congr 1
    funext a
    by_cases e1 : a = lo + n
    · subst e1
      rw [xu_same, xu_ne (by omega), xu_same]
      rfl
    · rw [xu_ne e1]
      by_cases e2 : a = lo + (n + 1)
      · subst e2
        rw [xu_same]
        exact (xu_same _ _ _).symm
      · rw [xu_ne e2, xu_ne e1, xu_ne (by omega), xu_ne e1]
  have hP : va_P D vwCl (rl lo (n + 2) (ww cy w t (lo + n) b d nd (G 0 4) f rr)) H := by rw [← hwe]; exact hP
  have hobj : ww cy w t (lo + n) b d nd (G 0 4) f rr t = .inr (7, tF t b d (lo + n) (G 0 4)) := xu_same _ _ _
  refine lv_aload_n hx hb dX7_well_110 rfl (lv_at hl 2 rfl) ?_
  refine x_get (ref := RX7) (C := RX7) (T := TX7) (N := 13) (ci := 7) (v := .ref (t + 1)) hx hb hts iX7 hown hK.1 hP (by omega) (by omega) hobj rfl 0 (by decide) (hts (.fieldLink RX7 10 "PoreFieldLaw$Told" "m" "LPoreField;") (by decide +kernel)) (fun _ h9 => h9) rfl dX7_well_111 ?_
  refine lv_iload_n hx hb dX7_well_114 rfl (lv_at hl 3 rfl) ?_
  refine lv_iload_n hx hb dX7_well_115 rfl (lv_at hl 4 rfl) ?_
  have hpf : pw cy (ww cy w t (lo + n) b d nd (G 0 4) f rr) (t + 1) G T P = ww cy w t (lo + n) b d nd (G 0 4) f rr := pw_ext hT.pf (fun a h1 h2 => ww_out (by omega))
  have hP := TW.to hpf hP
  refine x_calli (va_runV (As := [.int kd, .int (nI ce)]) (rest := []) ⟨hx, hb, hml, hown, hts⟩ (c_X6_well l D cy lo (n + 2) (ww cy w t (lo + n) b d nd (G 0 4) f rr) (t + 1) G T P (by omega) (by omega) nd hG ce hc kd hk1 hk2 hnd) (cwV 2 hts gX7_well_X6_well rfl rfl rfl (by decide +kernel) ⟨Nat.le_of_ble_eq_true rfl, Nat.le_of_ble_eq_true rfl⟩) (preV hP hK (x_recv (ci := 6) (q := (RX6, TX6, 11)) hK.1 hP (by omega) (by omega) rfl ((gw_out (by omega)).trans ((gw_out (by omega)).trans hw_0)))) rfl rfl hl.1 rfl (lv_room (Nat.le_of_ble_eq_true rfl)) dX7_well_116 ⟨Nat.le_of_ble_eq_true rfl, by show 0 + (nd + 1) + 14 + 0 ≤ 21; omega⟩) hS (fun H locs hP hS => ?_)
  have hP : va_P D vwCl (rl lo (n + 2) (pw cy (ww cy w t (lo + n) b d nd (G 0 4) f rr) (t + 1) (m_wellG G nd ce kd) T P)) H := hP
  have hTT := hT.well hnd (ce := ce) (kd := kd) hfi (r := rr) ⟨hrr.1, hrr.2.1.trans hfr.1.symm, hrr.2.2.1.trans hfr.2.1.symm, hrr.2.2.2.1.trans hfr.2.2.1.symm, hrr.2.2.2.2.trans hfr.2.2.2.symm⟩
  refine lv_aload_n hx hb dX7_well_119 rfl (lv_at hl 2 rfl) ?_
  refine x_get (ref := RX7) (C := RX7) (T := TX7) (N := 13) (ci := 7) (v := .ref (lo + n)) hx hb hts iX7 hown hK.1 hP (by omega) (by omega) ((pw_out (by omega)).trans hobj) rfl 6 (by decide) (hts (.fieldLink RX7 31 "PoreFieldLaw$Told" "wells" "[[I") (by decide +kernel)) (fun _ h9 => h9) rfl dX7_well_120 ?_
  refine x_alenA hx hb hK.1 hP (by omega) (by omega) 6 ((pw_out (by omega)).trans ((xu_ne (by omega)).trans ((xu_ne (by omega)).trans (xu_same _ _ _)))) rfl dX7_well_123 ?_
  refine lv_iconst (v := 1) hx hb dX7_well_124 (by decide) ?_
  refine lv_isub hx hb dX7_well_125 ?_
  have hq : G 0 2 = nI (nd + 1) - 1 := by
    rw [hG.2.1, ← nI_1, Int32.add_sub_cancel]
  refine lv_icmp_ne (tgt := 133) hx hb dX7_well_126 (by decide) (fun h1 => absurd hq h1) (fun h1 => ?_)
  refine lv_iconst (v := 1) hx hb dX7_well_129 (by decide) ?_
  refine lv_goto (tgt := 134) hx hb dX7_well_130 (by decide) ?_
  refine x_size fun hz1 => ?_
  have hz2 := (rl_one hP (a := lo + (n + 1)) (by omega) (by omega)).lt
  refine W.widen (k := 2) (n := 21) (by omega) (by omega) ?_
  exact W.zret (v := 1) hx hb hr rfl (fun tE ht hW => ⟨⟨_, (n + 2, _), rfl, ⟨rfl, rfl, hTT, fun a ha => (pw_out (by
    by_cases e : a < t + 1 ∨ t + 1 + 118 ≤ a
    · exact e
    · exact absurd (Or.inl (hT.own a (by omega) (by omega))) ha)).trans (ww_out ⟨fun e => ha (Or.inr (Or.inl e)), fun e => ha (Or.inr (Or.inr e)), fun e => ha (Or.inl (hT.own a (by omega) (by omega)))⟩)⟩, x_at ht hP, by rw [ht]; show H.size = lo + (n + 2); omega⟩, hS.F ht⟩) hS.2.2 dX7_well_134
