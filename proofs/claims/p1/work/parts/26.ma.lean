/-! the reckoner's own methods, on a new one -/
set_option maxRecDepth 100000 in
set_option maxHeartbeats 1000000 in
/-- in -/
theorem c_X8_in (l : Launch) (D : va_G) (cy : Nat → ClassId) (lo n : Nat) (w : Nat → va_E) (x a b : Int32) : Met l yX8_in wsX8_in ({ frames := 0, cells := 0, slots := 0, locals := 0 }) (PcW D cy lo n w [.int x, .int a, .int b]) (QiW D lo n w (if a ≤ x ∧ x ≤ b then 1 else 0)) 0 0 (fun q : Nat => lo ≤ q) := by
  refine Met.ofW (cc := cX8_in) (maxL := 3) (ret := (some .boolean)) (by decide) rfl ?_
  intro p e s m args below meth c s₁ B hml hv
  obtain ⟨rfl, hP, hK, hS⟩ := x_entry hv
  have hx := B.exec
  have hb := B.bytes
  have hr := B.returns
  have hts := atoms_spec (ws := wsX8_in) B.pre
  have hown : s.vm.findClass RX8 = some m.cls := findClass_of_methodNamed B.named
  have hlocks := B.notSynchronized
  have hl := lv_entry ([.int x, .int a, .int b]) (n := 3) (Nat.le_of_ble_eq_true rfl)
  rw [lg_entry_eq]
  generalize (lg_sl ([.int x, .int a, .int b]) ++ List.replicate (3 - (lg_sl ([.int x, .int a, .int b])).length) Slot.unset).toArray = ls at hl ⊢
  have hl : lv_has ls 3 [(0, .int x), (1, .int a), (2, .int b)] := hl
  refine lv_iload_n hx hb dX8_in_0 rfl (lv_at hl 0 rfl) ?_
  refine lv_iload_n hx hb dX8_in_1 rfl (lv_at hl 1 rfl) ?_
  refine lv_icmp_lt (tgt := 14) hx hb dX8_in_2 (by decide) (fun c_2 => ?_) (fun c_2 => ?_)
  · refine lv_iconst (v := 0) hx hb dX8_in_14 (by decide) ?_
    exact W.zret (v := (0 : Int32)) hx hb hr rfl (fun tE ht hW => ⟨⟨(0 : Int32), (), rfl, (if_neg (fun h9 => absurd h9.1 (Int32.not_le.mpr c_2))).symm, x_at ht hP⟩, hS.F ht⟩) hS.2.2 dX8_in_15
  · refine lv_iload_n hx hb dX8_in_5 rfl (lv_at hl 0 rfl) ?_
    refine lv_iload_n hx hb dX8_in_6 rfl (lv_at hl 2 rfl) ?_
    refine lv_icmp_gt (tgt := 14) hx hb dX8_in_7 (by decide) (fun c_7 => ?_) (fun c_7 => ?_)
    · refine lv_iconst (v := 0) hx hb dX8_in_14 (by decide) ?_
      exact W.zret (v := (0 : Int32)) hx hb hr rfl (fun tE ht hW => ⟨⟨(0 : Int32), (), rfl, (if_neg (fun h9 => absurd h9.2 (Int32.not_le.mpr c_7))).symm, x_at ht hP⟩, hS.F ht⟩) hS.2.2 dX8_in_15
    · refine lv_iconst (v := 1) hx hb dX8_in_10 (by decide) ?_
      refine lv_goto (tgt := 15) hx hb dX8_in_11 (by decide) ?_
      exact W.zret (v := (1 : Int32)) hx hb hr rfl (fun tE ht hW => ⟨⟨(1 : Int32), (), rfl, (if_pos ⟨Int32.not_lt.mp c_2, Int32.not_lt.mp c_7⟩).symm, x_at ht hP⟩, hS.F ht⟩) hS.2.2 dX8_in_15

set_option maxRecDepth 100000 in
set_option maxHeartbeats 1000000 in
/-- isCell -/
theorem c_X8_isCell (l : Launch) (D : va_G) (cy : Nat → ClassId) (lo n : Nat) (w : Nat → va_E) (x : Int32) : Met l yX8_isCell wsX8_isCell ({ frames := 1, cells := 0, slots := 0, locals := 22 }) (PcW D cy lo n w [.int x]) (QiW D lo n w (if 0 ≤ x ∧ x ≤ 15 then 1 else 0)) 0 0 (fun q : Nat => lo ≤ q) := by
  refine Met.ofW (cc := cX8_isCell) (maxL := 1) (ret := (some .boolean)) (by decide) rfl ?_
  intro p e s m args below meth c s₁ B hml hv
  obtain ⟨rfl, hP, hK, hS⟩ := x_entry hv
  have hx := B.exec
  have hb := B.bytes
  have hr := B.returns
  have hts := atoms_spec (ws := wsX8_isCell) B.pre
  have hown : s.vm.findClass RX8 = some m.cls := findClass_of_methodNamed B.named
  have hlocks := B.notSynchronized
  have hl := lv_entry ([.int x]) (n := 1) (Nat.le_of_ble_eq_true rfl)
  rw [lg_entry_eq]
  generalize (lg_sl ([.int x]) ++ List.replicate (1 - (lg_sl ([.int x])).length) Slot.unset).toArray = ls at hl ⊢
  have hl : lv_has ls 1 [(0, .int x)] := hl
  refine lv_iload_n hx hb dX8_isCell_0 rfl (lv_at hl 0 rfl) ?_
  refine lv_iconst (v := 0) hx hb dX8_isCell_1 (by decide) ?_
  refine lv_bipush (v := 15) hx hb dX8_isCell_2 (by decide) ?_
  refine x_calli (va_runS (As := [.int x, .int (0 : Int32), .int (15 : Int32)]) (rest := []) ⟨hx, hb, hml, hown, hts⟩ (c_X8_in l D cy lo n w x (0 : Int32) (15 : Int32)) (va_cwS 3 hts gX8_isCell_X8_in rfl rfl rfl (by decide +kernel) ⟨Nat.le_of_ble_eq_true rfl, Nat.le_of_ble_eq_true rfl⟩) (preS hP hK) rfl rfl hl.1 rfl (lv_room (Nat.le_of_ble_eq_true rfl)) dX8_isCell_4 ⟨Nat.le_of_ble_eq_true rfl, Nat.le_of_ble_eq_true rfl⟩) hS (fun H locs hP hS => ?_)
  exact W.zret (v := (if (0 : Int32) ≤ x ∧ x ≤ (15 : Int32) then 1 else 0)) hx hb hr (nar_z (by split <;> simp)) (fun tE ht hW => ⟨⟨(if (0 : Int32) ≤ x ∧ x ≤ (15 : Int32) then 1 else 0), (), rfl, rfl, x_at ht hP⟩, hS.F ht⟩) hS.2.2 dX8_isCell_7

def r_beside (c b : Int32) : Int32 := if 0 ≤ c ∧ c ≤ 15 then (if b = 0 then (if 12 ≤ c then 0 else 1) else if 3 ≤ c - c / 4 * 4 then 0 else 1) else 0
theorem r_beside_01 (c b : Int32) : r_beside c b = 0 ∨ r_beside c b = 1 := by
  unfold r_beside
  repeat' split
  all_goals simp
set_option maxRecDepth 100000 in
set_option maxHeartbeats 1000000 in
/-- isBeside -/
theorem c_X8_isBeside (l : Launch) (D : va_G) (cy : Nat → ClassId) (lo n : Nat) (w : Nat → va_E) (x b : Int32) : Met l yX8_isBeside wsX8_isBeside ({ frames := 2, cells := 0, slots := 0, locals := 42 }) (PcW D cy lo n w [.int x, .int b]) (QiW D lo n w (r_beside x b)) 0 0 (fun q : Nat => lo ≤ q) := by
  refine Met.ofW (cc := cX8_isBeside) (maxL := 2) (ret := (some .boolean)) (by decide) rfl ?_
  intro p e s m args below meth c s₁ B hml hv
  obtain ⟨rfl, hP, hK, hS⟩ := x_entry hv
  have hx := B.exec
  have hb := B.bytes
  have hr := B.returns
  have hts := atoms_spec (ws := wsX8_isBeside) B.pre
  have hown : s.vm.findClass RX8 = some m.cls := findClass_of_methodNamed B.named
  have hlocks := B.notSynchronized
  have hl := lv_entry ([.int x, .int b]) (n := 2) (Nat.le_of_ble_eq_true rfl)
  rw [lg_entry_eq]
  generalize (lg_sl ([.int x, .int b]) ++ List.replicate (2 - (lg_sl ([.int x, .int b])).length) Slot.unset).toArray = ls at hl ⊢
  have hl : lv_has ls 2 [(0, .int x), (1, .int b)] := hl
  refine lv_iload_n hx hb dX8_isBeside_0 rfl (lv_at hl 0 rfl) ?_
  refine x_calli (va_runS (As := [.int x]) (rest := []) ⟨hx, hb, hml, hown, hts⟩ (c_X8_isCell l D cy lo n w x) (va_cwS 1 hts gX8_isBeside_X8_isCell rfl rfl rfl (by decide +kernel) ⟨Nat.le_of_ble_eq_true rfl, Nat.le_of_ble_eq_true rfl⟩) (preS hP hK) rfl rfl hl.1 rfl (lv_room (Nat.le_of_ble_eq_true rfl)) dX8_isBeside_1 ⟨Nat.le_of_ble_eq_true rfl, Nat.le_of_ble_eq_true rfl⟩) hS (fun H locs hP hS => ?_)
  by_cases c_1 : 0 ≤ x ∧ x ≤ 15
  · refine x_top (v' := (1 : Int32)) (if_pos c_1) ?_
    refine lv_if_eq (tgt := 31) hx hb dX8_isBeside_4 (by decide) (fun h => absurd h (by decide)) (fun _ => ?_)
    refine lv_iload_n hx hb dX8_isBeside_7 rfl (lv_at hl 1 rfl) ?_
    refine lv_if_eq (tgt := 21) hx hb dX8_isBeside_8 (by decide) (fun c_8 => ?_) (fun c_8 => ?_)
    · refine lv_iload_n hx hb dX8_isBeside_21 rfl (lv_at hl 0 rfl) ?_
      refine lv_bipush (v := 12) hx hb dX8_isBeside_22 (by decide) ?_
      refine lv_icmp_ge (tgt := 31) hx hb dX8_isBeside_24 (by decide) (fun c_24 => ?_) (fun c_24 => ?_)
      · refine lv_iconst (v := 0) hx hb dX8_isBeside_31 (by decide) ?_
        have eS : r_beside x b = 0 := by unfold r_beside; rw [if_pos c_1, if_pos c_8, if_pos c_24]
        exact W.zret (v := (0 : Int32)) hx hb hr rfl (fun tE ht hW => ⟨⟨(0 : Int32), (), rfl, eS.symm, x_at ht hP⟩, hS.F ht⟩) hS.2.2 dX8_isBeside_32
      · refine lv_iconst (v := 1) hx hb dX8_isBeside_27 (by decide) ?_
        refine lv_goto (tgt := 32) hx hb dX8_isBeside_28 (by decide) ?_
        have eS : r_beside x b = 1 := by unfold r_beside; rw [if_pos c_1, if_pos c_8, if_neg c_24]
        exact W.zret (v := (1 : Int32)) hx hb hr rfl (fun tE ht hW => ⟨⟨(1 : Int32), (), rfl, eS.symm, x_at ht hP⟩, hS.F ht⟩) hS.2.2 dX8_isBeside_32
    · refine lv_iload_n hx hb dX8_isBeside_11 rfl (lv_at hl 0 rfl) ?_
      refine lv_iconst (v := 4) hx hb dX8_isBeside_12 (by decide) ?_
      refine lv_irem hx hb dX8_isBeside_13 (by decide) ?_
      refine lv_iconst (v := 3) hx hb dX8_isBeside_14 (by decide) ?_
      refine lv_icmp_ge (tgt := 31) hx hb dX8_isBeside_15 (by decide) (fun c_15 => ?_) (fun c_15 => ?_)
      · refine lv_iconst (v := 0) hx hb dX8_isBeside_31 (by decide) ?_
        have eS : r_beside x b = 0 := by unfold r_beside; rw [if_pos c_1, if_neg c_8, if_pos c_15]
        exact W.zret (v := (0 : Int32)) hx hb hr rfl (fun tE ht hW => ⟨⟨(0 : Int32), (), rfl, eS.symm, x_at ht hP⟩, hS.F ht⟩) hS.2.2 dX8_isBeside_32
      · refine lv_goto (tgt := 27) hx hb dX8_isBeside_18 (by decide) ?_
        refine lv_iconst (v := 1) hx hb dX8_isBeside_27 (by decide) ?_
        refine lv_goto (tgt := 32) hx hb dX8_isBeside_28 (by decide) ?_
        have eS : r_beside x b = 1 := by unfold r_beside; rw [if_pos c_1, if_neg c_8, if_neg c_15]
        exact W.zret (v := (1 : Int32)) hx hb hr rfl (fun tE ht hW => ⟨⟨(1 : Int32), (), rfl, eS.symm, x_at ht hP⟩, hS.F ht⟩) hS.2.2 dX8_isBeside_32
  · refine x_top (v' := (0 : Int32)) (if_neg c_1) ?_
    refine lv_if_eq (tgt := 31) hx hb dX8_isBeside_4 (by decide) (fun _ => ?_) (fun h => absurd (by decide) h)
    refine lv_iconst (v := 0) hx hb dX8_isBeside_31 (by decide) ?_
    have eS : r_beside x b = 0 := by unfold r_beside; rw [if_neg c_1]
    exact W.zret (v := (0 : Int32)) hx hb hr rfl (fun tE ht hW => ⟨⟨(0 : Int32), (), rfl, eS.symm, x_at ht hP⟩, hS.F ht⟩) hS.2.2 dX8_isBeside_32

set_option maxRecDepth 100000 in
set_option maxHeartbeats 1000000 in
/-- isWell, where there is none -/
theorem c_X8_isWell (l : Launch) (D : va_G) (cy : Nat → ClassId) (lo n : Nat) (w : Nat → va_E) (q : Nat) (h1 : lo ≤ q) (h2 : q + 22 ≤ lo + n) (th : Int32) (hM : MM cy w q th 5 0 0 0) (hB : LB cy w q) (hF : FM cy w (q + 1) 0 300) (x : Int32) : Met l yX8_isWell wsX8_isWell ({ frames := 1, cells := 0, slots := 0, locals := 22 }) (PcW D cy lo n w [.ref q, .int x]) (QiW D lo n w 0) 0 0 (fun q : Nat => lo ≤ q) := by
  refine Met.ofW (cc := cX8_isWell) (maxL := 2) (ret := (some .boolean)) (by decide) rfl ?_
  intro p e s m args below meth c s₁ B hml hv
  obtain ⟨rfl, hP, hK, hS⟩ := x_entry hv
  have hx := B.exec
  have hb := B.bytes
  have hr := B.returns
  have hts := atoms_spec (ws := wsX8_isWell) B.pre
  have hown : s.vm.findClass RX8 = some m.cls := findClass_of_methodNamed B.named
  have hlocks := B.notSynchronized
  have iX7 : ∀ w ∈ u_ws RX7 TX7 14, w ∈ wsX8_isWell := by decide +kernel
  have iX8 : ∀ w ∈ u_ws RX8 TX8 8, w ∈ wsX8_isWell := by decide +kernel
  have hl := lv_entry ([.ref q, .int x]) (n := 2) (Nat.le_of_ble_eq_true rfl)
  rw [lg_entry_eq]
  generalize (lg_sl ([.ref q, .int x]) ++ List.replicate (2 - (lg_sl ([.ref q, .int x])).length) Slot.unset).toArray = ls at hl ⊢
  have hl : lv_has ls 2 [(0, .ref q), (1, .int x)] := hl
  refine lv_iload_n hx hb dX8_isWell_0 rfl (lv_at hl 1 rfl) ?_
  refine lv_iconst (v := 0) hx hb dX8_isWell_1 (by decide) ?_
  refine lv_aload_n hx hb dX8_isWell_2 rfl (lv_at hl 0 rfl) ?_
  refine x_get (ref := RX8) (C := RX8) (T := TX8) (N := 8) (ci := 8) (v := .ref (q + 1)) hx hb hts iX8 hown hK.1 hP (by omega) (by omega) hM.self rfl 1 (by decide) (hts (.fieldLink RX8 10 "PoreFieldModel" "field" "LPoreFieldModel$Field;") (by decide +kernel)) (fun _ h9 => h9) rfl dX8_isWell_3 ?_
  refine x_get (ref := RX7) (C := RX7) (T := TX7) (N := 14) (ci := 7) (v := .int (0 : Int32)) hx hb hts iX7 hown hK.1 hP (by omega) (by omega) hF.self rfl 9 (by decide) (hts (.fieldLink RX8 40 "PoreFieldModel$Field" "wellCount" "I") (by decide +kernel)) (fun _ h9 => h9) rfl dX8_isWell_6 ?_
  refine lv_iconst (v := 1) hx hb dX8_isWell_9 (by decide) ?_
  refine lv_isub hx hb dX8_isWell_10 ?_
  refine x_top (v' := -1) (by decide) ?_
  refine x_calli (va_runS (As := [.int x, .int (0 : Int32), .int (-1 : Int32)]) (rest := []) ⟨hx, hb, hml, hown, hts⟩ (c_X8_in l D cy lo n w x (0 : Int32) (-1 : Int32)) (va_cwS 3 hts gX8_isWell_X8_in rfl rfl rfl (by decide +kernel) ⟨Nat.le_of_ble_eq_true rfl, Nat.le_of_ble_eq_true rfl⟩) (preS hP hK) rfl rfl hl.1 rfl (lv_room (Nat.le_of_ble_eq_true rfl)) dX8_isWell_11 ⟨Nat.le_of_ble_eq_true rfl, Nat.le_of_ble_eq_true rfl⟩) hS (fun H locs hP hS => ?_)
  have eS : (if (0 : Int32) ≤ x ∧ x ≤ (-1 : Int32) then 1 else 0) = (0 : Int32) := if_neg (fun h9 => absurd (Int32.le_trans h9.1 h9.2) (by decide))
  exact W.zret (v := (if (0 : Int32) ≤ x ∧ x ≤ (-1 : Int32) then 1 else 0)) hx hb hr (nar_z (Or.inl eS)) (fun tE ht hW => ⟨⟨(if (0 : Int32) ≤ x ∧ x ≤ (-1 : Int32) then 1 else 0), (), rfl, eS, x_at ht hP⟩, hS.F ht⟩) hS.2.2 dX8_isWell_14

set_option maxRecDepth 100000 in
set_option maxHeartbeats 1000000 in
/-- no -/
theorem c_X8_no (l : Launch) (D : va_G) (cy : Nat → ClassId) (lo n : Nat) (w : Nat → va_E) (q : Nat) (h1 : lo ≤ q) (h2 : q + 22 ≤ lo + n) (th : Int32) (hM : MM cy w q th 5 0 0 0) (hB : LB cy w q) (hF : FM cy w (q + 1) 0 300) (x : Int32) : Met l yX8_no wsX8_no ({ frames := 0, cells := 0, slots := 0, locals := 0 }) (PcW D cy lo n w [.ref q, .int x]) (QxT D lo n (fun r u => r = 0 ∧ MM cy u q x 5 0 0 0 ∧ LB cy u q ∧ FM cy u (q + 1) 0 300 ∧ fr q 22 w u)) 0 0 (fun q : Nat => lo ≤ q) := by
  refine Met.ofW (cc := cX8_no) (maxL := 2) (ret := (some .int)) (by decide) rfl ?_
  intro p e s m args below meth c s₁ B hml hv
  obtain ⟨rfl, hP, hK, hS⟩ := x_entry hv
  have hx := B.exec
  have hb := B.bytes
  have hr := B.returns
  have hts := atoms_spec (ws := wsX8_no) B.pre
  have hown : s.vm.findClass RX8 = some m.cls := findClass_of_methodNamed B.named
  have hlocks := B.notSynchronized
  have iX8 : ∀ w ∈ u_ws RX8 TX8 8, w ∈ wsX8_no := by decide +kernel
  have hl := lv_entry ([.ref q, .int x]) (n := 2) (Nat.le_of_ble_eq_true rfl)
  rw [lg_entry_eq]
  generalize (lg_sl ([.ref q, .int x]) ++ List.replicate (2 - (lg_sl ([.ref q, .int x])).length) Slot.unset).toArray = ls at hl ⊢
  have hl : lv_has ls 2 [(0, .ref q), (1, .int x)] := hl
  have hfr : fr q 22 w w := fr.rf
  refine lv_aload_n hx hb dX8_no_0 rfl (lv_at hl 0 rfl) ?_
  refine lv_iload_n hx hb dX8_no_1 rfl (lv_at hl 1 rfl) ?_
  refine x_put (ty := tyX8 0) (ref := RX8) (C := RX8) (T := TX8) (N := 8) (ci := 8) (v := .int x) hx hb hts iX8 tyX8 tyX8_ok nmX8 hown hK.1 hP hS (by omega) (by omega) hM.self rfl 0 (by decide) (hts (.fieldLink RX8 29 "PoreFieldModel" "thrown" "I") (by decide +kernel)) (fun _ h9 => h9) rfl (by decide +kernel) rfl rfl (Nat.le_of_ble_eq_true rfl) dX8_no_2 (fun H locs hP hS => ?_)
  refine x_gen hP (fun v1 e1 hP => ?_)
  have hF : FM cy v1 (q + 1) 0 300 := by rw [e1]; exact hF.o (by omega)
  have hM : MM cy v1 q x 5 0 0 0 := by rw [e1]; exact hM.up_self (th' := x) (pr' := 5) (bk' := 0) (bo' := 0) (bw' := 0)
  have hB : LB cy v1 q := by rw [e1]; exact hB.o (by omega)
  have hfr : fr q 22 w v1 := by rw [e1]; exact hfr.up (by omega) (by omega)
  refine lv_iconst (v := 0) hx hb dX8_no_5 (by decide) ?_
  exact W.iret (v := (0 : Int32)) hx hb hr (fun tE ht hW => ⟨⟨(0 : Int32), v1, rfl, ⟨rfl, hM, hB, hF, hfr⟩, x_at ht hP⟩, hS.F ht⟩) hS.2.2 dX8_no_6

set_option maxRecDepth 100000 in
set_option maxHeartbeats 1000000 in
/-- thrown -/
theorem c_X8_thrown (l : Launch) (D : va_G) (cy : Nat → ClassId) (lo n : Nat) (w : Nat → va_E) (q : Nat) (h1 : lo ≤ q) (h2 : q < lo + n) (th : Int32) (fs : List Value) (hs : w q = .inr (8, .int th :: fs)) : Met l yX8_thrown wsX8_thrown ({ frames := 0, cells := 0, slots := 0, locals := 0 }) (PcW D cy lo n w [.ref q]) (QiW D lo n w th) 0 0 (fun q : Nat => lo ≤ q) := by
  refine Met.ofW (cc := cX8_thrown) (maxL := 1) (ret := (some .int)) (by decide) rfl ?_
  intro p e s m args below meth c s₁ B hml hv
  obtain ⟨rfl, hP, hK, hS⟩ := x_entry hv
  have hx := B.exec
  have hb := B.bytes
  have hr := B.returns
  have hts := atoms_spec (ws := wsX8_thrown) B.pre
  have hown : s.vm.findClass RX8 = some m.cls := findClass_of_methodNamed B.named
  have hlocks := B.notSynchronized
  have iX8 : ∀ w ∈ u_ws RX8 TX8 8, w ∈ wsX8_thrown := by decide +kernel
  have hl := lv_entry ([.ref q]) (n := 1) (Nat.le_of_ble_eq_true rfl)
  rw [lg_entry_eq]
  generalize (lg_sl ([.ref q]) ++ List.replicate (1 - (lg_sl ([.ref q])).length) Slot.unset).toArray = ls at hl ⊢
  have hl : lv_has ls 1 [(0, .ref q)] := hl
  refine lv_aload_n hx hb dX8_thrown_0 rfl (lv_at hl 0 rfl) ?_
  refine x_get (ref := RX8) (C := RX8) (T := TX8) (N := 8) (ci := 8) (v := .int th) hx hb hts iX8 hown hK.1 hP (by omega) (by omega) hs rfl 0 (by decide) (hts (.fieldLink RX8 29 "PoreFieldModel" "thrown" "I") (by decide +kernel)) (fun _ h9 => h9) rfl dX8_thrown_1 ?_
  exact W.iret (v := th) hx hb hr (fun tE ht hW => ⟨⟨th, (), rfl, rfl, x_at ht hP⟩, hS.F ht⟩) hS.2.2 dX8_thrown_4

def r_choke (_x _y : Int32) : Int32 × Int32 := (1, 0)
set_option maxRecDepth 100000 in
set_option maxHeartbeats 1000000 in
/-- choke -/
theorem c_X8_choke (l : Launch) (D : va_G) (cy : Nat → ClassId) (lo n : Nat) (w : Nat → va_E) (q : Nat) (h1 : lo ≤ q) (h2 : q + 22 ≤ lo + n) (th : Int32) (hM : MM cy w q th 5 0 0 0) (hB : LB cy w q) (hF : FM cy w (q + 1) 0 300) (x y : Int32) : Met l yX8_choke wsX8_choke ({ frames := 2, cells := 0, slots := 0, locals := 43 }) (PcW D cy lo n w [.ref q, .int x, .int y]) (QR D lo n q w (r_choke x y)) 0 0 (fun q : Nat => lo ≤ q) := by
  refine Met.ofW (cc := cX8_choke) (maxL := 5) (ret := (some .int)) (by decide) rfl ?_
  intro p e s m args below meth c s₁ B hml hv
  obtain ⟨rfl, hP, hK, hS⟩ := x_entry hv
  have hx := B.exec
  have hb := B.bytes
  have hr := B.returns
  have hts := atoms_spec (ws := wsX8_choke) B.pre
  have hown : s.vm.findClass RX8 = some m.cls := findClass_of_methodNamed B.named
  have hlocks := B.notSynchronized
  have iX8 : ∀ w ∈ u_ws RX8 TX8 8, w ∈ wsX8_choke := by decide +kernel
  have hl := lv_entry ([.ref q, .int x, .int y]) (n := 5) (Nat.le_of_ble_eq_true rfl)
  rw [lg_entry_eq]
  generalize (lg_sl ([.ref q, .int x, .int y]) ++ List.replicate (5 - (lg_sl ([.ref q, .int x, .int y])).length) Slot.unset).toArray = ls at hl ⊢
  have hl : lv_has ls 5 [(0, .ref q), (1, .int x), (2, .int y)] := hl
  have hfr : fr q 22 w w := fr.rf
  refine lv_aload_n hx hb dX8_choke_0 rfl (lv_at hl 0 rfl) ?_
  refine lv_iconst (v := 0) hx hb dX8_choke_1 (by decide) ?_
  refine x_put (ty := tyX8 0) (ref := RX8) (C := RX8) (T := TX8) (N := 8) (ci := 8) (v := .int (0 : Int32)) hx hb hts iX8 tyX8 tyX8_ok nmX8 hown hK.1 hP hS (by omega) (by omega) hM.self rfl 0 (by decide) (hts (.fieldLink RX8 29 "PoreFieldModel" "thrown" "I") (by decide +kernel)) (fun _ h9 => h9) rfl (by decide +kernel) rfl rfl (Nat.le_of_ble_eq_true rfl) dX8_choke_2 (fun H locs hP hS => ?_)
  refine x_gen hP (fun v1 e1 hP => ?_)
  have hF : FM cy v1 (q + 1) 0 300 := by rw [e1]; exact hF.o (by omega)
  have hM : MM cy v1 q 0 5 0 0 0 := by rw [e1]; exact hM.up_self (th' := 0) (pr' := 5) (bk' := 0) (bo' := 0) (bw' := 0)
  have hB : LB cy v1 q := by rw [e1]; exact hB.o (by omega)
  have hfr : fr q 22 w v1 := by rw [e1]; exact hfr.up (by omega) (by omega)
  refine lv_aload_n hx hb dX8_choke_5 rfl (lv_at hl 0 rfl) ?_
  refine lv_iload_n hx hb dX8_choke_6 rfl (lv_at hl 1 rfl) ?_
  refine x_calli (va_runV (As := [.int x]) (rest := []) ⟨hx, hb, hml, hown, hts⟩ (c_X8_isWell l D cy lo n v1 q (by omega) (by omega) 0 hM hB hF x) (cwV 1 hts gX8_choke_X8_isWell rfl rfl rfl (by decide +kernel) ⟨Nat.le_of_ble_eq_true rfl, Nat.le_of_ble_eq_true rfl⟩) (preV hP hK (x_recv (ci := 8) (q := (RX8, TX8, 8)) hK.1 hP (by omega) (by omega) rfl hM.self)) rfl rfl hl.1 rfl (lv_room (Nat.le_of_ble_eq_true rfl)) dX8_choke_7 ⟨Nat.le_of_ble_eq_true rfl, Nat.le_of_ble_eq_true rfl⟩) hS (fun H locs hP hS => ?_)
  refine lv_if_ne (tgt := 19) hx hb dX8_choke_10 (by decide) (fun h => absurd (by decide) h) (fun _ => ?_)
  refine lv_aload_n hx hb dX8_choke_13 rfl (lv_at hl 0 rfl) ?_
  refine lv_iconst (v := 1) hx hb dX8_choke_14 (by decide) ?_
  refine x_callx (va_runV (As := [.int (1 : Int32)]) (rest := []) ⟨hx, hb, hml, hown, hts⟩ (c_X8_no l D cy lo n v1 q (by omega) (by omega) 0 hM hB hF (1 : Int32)) (cwV 1 hts gX8_choke_X8_no rfl rfl rfl (by decide +kernel) ⟨Nat.le_of_ble_eq_true rfl, Nat.le_of_ble_eq_true rfl⟩) (preV hP hK (x_recv (ci := 8) (q := (RX8, TX8, 8)) hK.1 hP (by omega) (by omega) rfl hM.self)) rfl rfl hl.1 rfl (lv_room (Nat.le_of_ble_eq_true rfl)) dX8_choke_15 ⟨Nat.le_of_ble_eq_true rfl, Nat.le_of_ble_eq_true rfl⟩) hS (fun r9 u2 H locs hX hP hS => ?_)
  obtain ⟨rfl, hM, hB, hF, hf9⟩ := hX
  have hfr := hfr.tr hf9 (by omega) (by omega)
  have eS : r_choke x y = (1, (0 : Int32)) := by unfold r_choke; first | rfl | decide
  exact W.iret (v := (0 : Int32)) hx hb hr (fun tE ht hW => ⟨⟨(0 : Int32), u2, rfl, by rw [eS]; exact ⟨⟨_, hM.self⟩, fun _ => rfl, hfr⟩, x_at ht hP⟩, hS.F ht⟩) hS.2.2 dX8_choke_18

def r_rank (_x _y : Int32) : Int32 × Int32 := (1, 0)
set_option maxRecDepth 100000 in
set_option maxHeartbeats 1000000 in
/-- rank -/
theorem c_X8_rank (l : Launch) (D : va_G) (cy : Nat → ClassId) (lo n : Nat) (w : Nat → va_E) (q : Nat) (h1 : lo ≤ q) (h2 : q + 22 ≤ lo + n) (th : Int32) (hM : MM cy w q th 5 0 0 0) (hB : LB cy w q) (hF : FM cy w (q + 1) 0 300) (x y : Int32) : Met l yX8_rank wsX8_rank ({ frames := 2, cells := 0, slots := 0, locals := 43 }) (PcW D cy lo n w [.ref q, .int x, .int y]) (QR D lo n q w (r_rank x y)) 0 0 (fun q : Nat => lo ≤ q) := by
  refine Met.ofW (cc := cX8_rank) (maxL := 4) (ret := (some .int)) (by decide) rfl ?_
  intro p e s m args below meth c s₁ B hml hv
  obtain ⟨rfl, hP, hK, hS⟩ := x_entry hv
  have hx := B.exec
  have hb := B.bytes
  have hr := B.returns
  have hts := atoms_spec (ws := wsX8_rank) B.pre
  have hown : s.vm.findClass RX8 = some m.cls := findClass_of_methodNamed B.named
  have hlocks := B.notSynchronized
  have iX8 : ∀ w ∈ u_ws RX8 TX8 8, w ∈ wsX8_rank := by decide +kernel
  have hl := lv_entry ([.ref q, .int x, .int y]) (n := 4) (Nat.le_of_ble_eq_true rfl)
  rw [lg_entry_eq]
  generalize (lg_sl ([.ref q, .int x, .int y]) ++ List.replicate (4 - (lg_sl ([.ref q, .int x, .int y])).length) Slot.unset).toArray = ls at hl ⊢
  have hl : lv_has ls 4 [(0, .ref q), (1, .int x), (2, .int y)] := hl
  have hfr : fr q 22 w w := fr.rf
  refine lv_aload_n hx hb dX8_rank_0 rfl (lv_at hl 0 rfl) ?_
  refine lv_iconst (v := 0) hx hb dX8_rank_1 (by decide) ?_
  refine x_put (ty := tyX8 0) (ref := RX8) (C := RX8) (T := TX8) (N := 8) (ci := 8) (v := .int (0 : Int32)) hx hb hts iX8 tyX8 tyX8_ok nmX8 hown hK.1 hP hS (by omega) (by omega) hM.self rfl 0 (by decide) (hts (.fieldLink RX8 29 "PoreFieldModel" "thrown" "I") (by decide +kernel)) (fun _ h9 => h9) rfl (by decide +kernel) rfl rfl (Nat.le_of_ble_eq_true rfl) dX8_rank_2 (fun H locs hP hS => ?_)
  refine x_gen hP (fun v1 e1 hP => ?_)
  have hF : FM cy v1 (q + 1) 0 300 := by rw [e1]; exact hF.o (by omega)
  have hM : MM cy v1 q 0 5 0 0 0 := by rw [e1]; exact hM.up_self (th' := 0) (pr' := 5) (bk' := 0) (bo' := 0) (bw' := 0)
  have hB : LB cy v1 q := by rw [e1]; exact hB.o (by omega)
  have hfr : fr q 22 w v1 := by rw [e1]; exact hfr.up (by omega) (by omega)
  refine lv_aload_n hx hb dX8_rank_5 rfl (lv_at hl 0 rfl) ?_
  refine lv_iload_n hx hb dX8_rank_6 rfl (lv_at hl 1 rfl) ?_
  refine x_calli (va_runV (As := [.int x]) (rest := []) ⟨hx, hb, hml, hown, hts⟩ (c_X8_isWell l D cy lo n v1 q (by omega) (by omega) 0 hM hB hF x) (cwV 1 hts gX8_rank_X8_isWell rfl rfl rfl (by decide +kernel) ⟨Nat.le_of_ble_eq_true rfl, Nat.le_of_ble_eq_true rfl⟩) (preV hP hK (x_recv (ci := 8) (q := (RX8, TX8, 8)) hK.1 hP (by omega) (by omega) rfl hM.self)) rfl rfl hl.1 rfl (lv_room (Nat.le_of_ble_eq_true rfl)) dX8_rank_7 ⟨Nat.le_of_ble_eq_true rfl, Nat.le_of_ble_eq_true rfl⟩) hS (fun H locs hP hS => ?_)
  refine lv_if_ne (tgt := 19) hx hb dX8_rank_10 (by decide) (fun h => absurd (by decide) h) (fun _ => ?_)
  refine lv_aload_n hx hb dX8_rank_13 rfl (lv_at hl 0 rfl) ?_
  refine lv_iconst (v := 1) hx hb dX8_rank_14 (by decide) ?_
  refine x_callx (va_runV (As := [.int (1 : Int32)]) (rest := []) ⟨hx, hb, hml, hown, hts⟩ (c_X8_no l D cy lo n v1 q (by omega) (by omega) 0 hM hB hF (1 : Int32)) (cwV 1 hts gX8_rank_X8_no rfl rfl rfl (by decide +kernel) ⟨Nat.le_of_ble_eq_true rfl, Nat.le_of_ble_eq_true rfl⟩) (preV hP hK (x_recv (ci := 8) (q := (RX8, TX8, 8)) hK.1 hP (by omega) (by omega) rfl hM.self)) rfl rfl hl.1 rfl (lv_room (Nat.le_of_ble_eq_true rfl)) dX8_rank_15 ⟨Nat.le_of_ble_eq_true rfl, Nat.le_of_ble_eq_true rfl⟩) hS (fun r9 u2 H locs hX hP hS => ?_)
  obtain ⟨rfl, hM, hB, hF, hf9⟩ := hX
  have hfr := hfr.tr hf9 (by omega) (by omega)
  have eS : r_rank x y = (1, (0 : Int32)) := by unfold r_rank; first | rfl | decide
  exact W.iret (v := (0 : Int32)) hx hb hr (fun tE ht hW => ⟨⟨(0 : Int32), u2, rfl, by rw [eS]; exact ⟨⟨_, hM.self⟩, fun _ => rfl, hfr⟩, x_at ht hP⟩, hS.F ht⟩) hS.2.2 dX8_rank_18

def r_ofWell (_x _y : Int32) : Int32 × Int32 := (1, 0)
set_option maxRecDepth 100000 in
set_option maxHeartbeats 1000000 in
/-- ofWell -/
theorem c_X8_ofWell (l : Launch) (D : va_G) (cy : Nat → ClassId) (lo n : Nat) (w : Nat → va_E) (q : Nat) (h1 : lo ≤ q) (h2 : q + 22 ≤ lo + n) (th : Int32) (hM : MM cy w q th 5 0 0 0) (hB : LB cy w q) (hF : FM cy w (q + 1) 0 300) (x y : Int32) : Met l yX8_ofWell wsX8_ofWell ({ frames := 2, cells := 0, slots := 0, locals := 43 }) (PcW D cy lo n w [.ref q, .int x, .int y]) (QR D lo n q w (r_ofWell x y)) 0 0 (fun q : Nat => lo ≤ q) := by
  refine Met.ofW (cc := cX8_ofWell) (maxL := 3) (ret := (some .int)) (by decide) rfl ?_
  intro p e s m args below meth c s₁ B hml hv
  obtain ⟨rfl, hP, hK, hS⟩ := x_entry hv
  have hx := B.exec
  have hb := B.bytes
  have hr := B.returns
  have hts := atoms_spec (ws := wsX8_ofWell) B.pre
  have hown : s.vm.findClass RX8 = some m.cls := findClass_of_methodNamed B.named
  have hlocks := B.notSynchronized
  have iX8 : ∀ w ∈ u_ws RX8 TX8 8, w ∈ wsX8_ofWell := by decide +kernel
  have hl := lv_entry ([.ref q, .int x, .int y]) (n := 3) (Nat.le_of_ble_eq_true rfl)
  rw [lg_entry_eq]
  generalize (lg_sl ([.ref q, .int x, .int y]) ++ List.replicate (3 - (lg_sl ([.ref q, .int x, .int y])).length) Slot.unset).toArray = ls at hl ⊢
  have hl : lv_has ls 3 [(0, .ref q), (1, .int x), (2, .int y)] := hl
  have hfr : fr q 22 w w := fr.rf
  refine lv_aload_n hx hb dX8_ofWell_0 rfl (lv_at hl 0 rfl) ?_
  refine lv_iconst (v := 0) hx hb dX8_ofWell_1 (by decide) ?_
  refine x_put (ty := tyX8 0) (ref := RX8) (C := RX8) (T := TX8) (N := 8) (ci := 8) (v := .int (0 : Int32)) hx hb hts iX8 tyX8 tyX8_ok nmX8 hown hK.1 hP hS (by omega) (by omega) hM.self rfl 0 (by decide) (hts (.fieldLink RX8 29 "PoreFieldModel" "thrown" "I") (by decide +kernel)) (fun _ h9 => h9) rfl (by decide +kernel) rfl rfl (Nat.le_of_ble_eq_true rfl) dX8_ofWell_2 (fun H locs hP hS => ?_)
  refine x_gen hP (fun v1 e1 hP => ?_)
  have hF : FM cy v1 (q + 1) 0 300 := by rw [e1]; exact hF.o (by omega)
  have hM : MM cy v1 q 0 5 0 0 0 := by rw [e1]; exact hM.up_self (th' := 0) (pr' := 5) (bk' := 0) (bo' := 0) (bw' := 0)
  have hB : LB cy v1 q := by rw [e1]; exact hB.o (by omega)
  have hfr : fr q 22 w v1 := by rw [e1]; exact hfr.up (by omega) (by omega)
  refine lv_aload_n hx hb dX8_ofWell_5 rfl (lv_at hl 0 rfl) ?_
  refine lv_iload_n hx hb dX8_ofWell_6 rfl (lv_at hl 1 rfl) ?_
  refine x_calli (va_runV (As := [.int x]) (rest := []) ⟨hx, hb, hml, hown, hts⟩ (c_X8_isWell l D cy lo n v1 q (by omega) (by omega) 0 hM hB hF x) (cwV 1 hts gX8_ofWell_X8_isWell rfl rfl rfl (by decide +kernel) ⟨Nat.le_of_ble_eq_true rfl, Nat.le_of_ble_eq_true rfl⟩) (preV hP hK (x_recv (ci := 8) (q := (RX8, TX8, 8)) hK.1 hP (by omega) (by omega) rfl hM.self)) rfl rfl hl.1 rfl (lv_room (Nat.le_of_ble_eq_true rfl)) dX8_ofWell_7 ⟨Nat.le_of_ble_eq_true rfl, Nat.le_of_ble_eq_true rfl⟩) hS (fun H locs hP hS => ?_)
  refine lv_if_ne (tgt := 19) hx hb dX8_ofWell_10 (by decide) (fun h => absurd (by decide) h) (fun _ => ?_)
  refine lv_aload_n hx hb dX8_ofWell_13 rfl (lv_at hl 0 rfl) ?_
  refine lv_iconst (v := 1) hx hb dX8_ofWell_14 (by decide) ?_
  refine x_callx (va_runV (As := [.int (1 : Int32)]) (rest := []) ⟨hx, hb, hml, hown, hts⟩ (c_X8_no l D cy lo n v1 q (by omega) (by omega) 0 hM hB hF (1 : Int32)) (cwV 1 hts gX8_ofWell_X8_no rfl rfl rfl (by decide +kernel) ⟨Nat.le_of_ble_eq_true rfl, Nat.le_of_ble_eq_true rfl⟩) (preV hP hK (x_recv (ci := 8) (q := (RX8, TX8, 8)) hK.1 hP (by omega) (by omega) rfl hM.self)) rfl rfl hl.1 rfl (lv_room (Nat.le_of_ble_eq_true rfl)) dX8_ofWell_15 ⟨Nat.le_of_ble_eq_true rfl, Nat.le_of_ble_eq_true rfl⟩) hS (fun r9 u2 H locs hX hP hS => ?_)
  obtain ⟨rfl, hM, hB, hF, hf9⟩ := hX
  have hfr := hfr.tr hf9 (by omega) (by omega)
  have eS : r_ofWell x y = (1, (0 : Int32)) := by unfold r_ofWell; first | rfl | decide
  exact W.iret (v := (0 : Int32)) hx hb hr (fun tE ht hW => ⟨⟨(0 : Int32), u2, rfl, by rw [eS]; exact ⟨⟨_, hM.self⟩, fun _ => rfl, hfr⟩, x_at ht hP⟩, hS.F ht⟩) hS.2.2 dX8_ofWell_18

def r_bestChoke (_x _y : Int32) : Int32 × Int32 := (1, 0)
set_option maxRecDepth 100000 in
set_option maxHeartbeats 1000000 in
/-- bestChoke -/
theorem c_X8_bestChoke (l : Launch) (D : va_G) (cy : Nat → ClassId) (lo n : Nat) (w : Nat → va_E) (q : Nat) (h1 : lo ≤ q) (h2 : q + 22 ≤ lo + n) (th : Int32) (hM : MM cy w q th 5 0 0 0) (hB : LB cy w q) (hF : FM cy w (q + 1) 0 300) (x y : Int32) : Met l yX8_bestChoke wsX8_bestChoke ({ frames := 2, cells := 0, slots := 0, locals := 43 }) (PcW D cy lo n w [.ref q, .int x, .int y]) (QR D lo n q w (r_bestChoke x y)) 0 0 (fun q : Nat => lo ≤ q) := by
  refine Met.ofW (cc := cX8_bestChoke) (maxL := 3) (ret := (some .int)) (by decide) rfl ?_
  intro p e s m args below meth c s₁ B hml hv
  obtain ⟨rfl, hP, hK, hS⟩ := x_entry hv
  have hx := B.exec
  have hb := B.bytes
  have hr := B.returns
  have hts := atoms_spec (ws := wsX8_bestChoke) B.pre
  have hown : s.vm.findClass RX8 = some m.cls := findClass_of_methodNamed B.named
  have hlocks := B.notSynchronized
  have iX8 : ∀ w ∈ u_ws RX8 TX8 8, w ∈ wsX8_bestChoke := by decide +kernel
  have hl := lv_entry ([.ref q, .int x, .int y]) (n := 3) (Nat.le_of_ble_eq_true rfl)
  rw [lg_entry_eq]
  generalize (lg_sl ([.ref q, .int x, .int y]) ++ List.replicate (3 - (lg_sl ([.ref q, .int x, .int y])).length) Slot.unset).toArray = ls at hl ⊢
  have hl : lv_has ls 3 [(0, .ref q), (1, .int x), (2, .int y)] := hl
  have hfr : fr q 22 w w := fr.rf
  refine lv_aload_n hx hb dX8_bestChoke_0 rfl (lv_at hl 0 rfl) ?_
  refine lv_iconst (v := 0) hx hb dX8_bestChoke_1 (by decide) ?_
  refine x_put (ty := tyX8 0) (ref := RX8) (C := RX8) (T := TX8) (N := 8) (ci := 8) (v := .int (0 : Int32)) hx hb hts iX8 tyX8 tyX8_ok nmX8 hown hK.1 hP hS (by omega) (by omega) hM.self rfl 0 (by decide) (hts (.fieldLink RX8 29 "PoreFieldModel" "thrown" "I") (by decide +kernel)) (fun _ h9 => h9) rfl (by decide +kernel) rfl rfl (Nat.le_of_ble_eq_true rfl) dX8_bestChoke_2 (fun H locs hP hS => ?_)
  refine x_gen hP (fun v1 e1 hP => ?_)
  have hF : FM cy v1 (q + 1) 0 300 := by rw [e1]; exact hF.o (by omega)
  have hM : MM cy v1 q 0 5 0 0 0 := by rw [e1]; exact hM.up_self (th' := 0) (pr' := 5) (bk' := 0) (bo' := 0) (bw' := 0)
  have hB : LB cy v1 q := by rw [e1]; exact hB.o (by omega)
  have hfr : fr q 22 w v1 := by rw [e1]; exact hfr.up (by omega) (by omega)
  refine lv_aload_n hx hb dX8_bestChoke_5 rfl (lv_at hl 0 rfl) ?_
  refine lv_iload_n hx hb dX8_bestChoke_6 rfl (lv_at hl 1 rfl) ?_
  refine x_calli (va_runV (As := [.int x]) (rest := []) ⟨hx, hb, hml, hown, hts⟩ (c_X8_isWell l D cy lo n v1 q (by omega) (by omega) 0 hM hB hF x) (cwV 1 hts gX8_bestChoke_X8_isWell rfl rfl rfl (by decide +kernel) ⟨Nat.le_of_ble_eq_true rfl, Nat.le_of_ble_eq_true rfl⟩) (preV hP hK (x_recv (ci := 8) (q := (RX8, TX8, 8)) hK.1 hP (by omega) (by omega) rfl hM.self)) rfl rfl hl.1 rfl (lv_room (Nat.le_of_ble_eq_true rfl)) dX8_bestChoke_7 ⟨Nat.le_of_ble_eq_true rfl, Nat.le_of_ble_eq_true rfl⟩) hS (fun H locs hP hS => ?_)
  refine lv_if_ne (tgt := 19) hx hb dX8_bestChoke_10 (by decide) (fun h => absurd (by decide) h) (fun _ => ?_)
  refine lv_aload_n hx hb dX8_bestChoke_13 rfl (lv_at hl 0 rfl) ?_
  refine lv_iconst (v := 1) hx hb dX8_bestChoke_14 (by decide) ?_
  refine x_callx (va_runV (As := [.int (1 : Int32)]) (rest := []) ⟨hx, hb, hml, hown, hts⟩ (c_X8_no l D cy lo n v1 q (by omega) (by omega) 0 hM hB hF (1 : Int32)) (cwV 1 hts gX8_bestChoke_X8_no rfl rfl rfl (by decide +kernel) ⟨Nat.le_of_ble_eq_true rfl, Nat.le_of_ble_eq_true rfl⟩) (preV hP hK (x_recv (ci := 8) (q := (RX8, TX8, 8)) hK.1 hP (by omega) (by omega) rfl hM.self)) rfl rfl hl.1 rfl (lv_room (Nat.le_of_ble_eq_true rfl)) dX8_bestChoke_15 ⟨Nat.le_of_ble_eq_true rfl, Nat.le_of_ble_eq_true rfl⟩) hS (fun r9 u2 H locs hX hP hS => ?_)
  obtain ⟨rfl, hM, hB, hF, hf9⟩ := hX
  have hfr := hfr.tr hf9 (by omega) (by omega)
  have eS : r_bestChoke x y = (1, (0 : Int32)) := by unfold r_bestChoke; first | rfl | decide
  exact W.iret (v := (0 : Int32)) hx hb hr (fun tE ht hW => ⟨⟨(0 : Int32), u2, rfl, by rw [eS]; exact ⟨⟨_, hM.self⟩, fun _ => rfl, hfr⟩, x_at ht hP⟩, hS.F ht⟩) hS.2.2 dX8_bestChoke_18

def r_plug (_x : Int32) : Int32 × Int32 := (1, 0)
set_option maxRecDepth 100000 in
set_option maxHeartbeats 1000000 in
/-- plug -/
theorem c_X8_plug (l : Launch) (D : va_G) (cy : Nat → ClassId) (lo n : Nat) (w : Nat → va_E) (q : Nat) (h1 : lo ≤ q) (h2 : q + 22 ≤ lo + n) (th : Int32) (hM : MM cy w q th 5 0 0 0) (hB : LB cy w q) (hF : FM cy w (q + 1) 0 300) (x : Int32) : Met l yX8_plug wsX8_plug ({ frames := 2, cells := 0, slots := 0, locals := 43 }) (PcW D cy lo n w [.ref q, .int x]) (QR D lo n q w (r_plug x)) 0 0 (fun q : Nat => lo ≤ q) := by
  refine Met.ofW (cc := cX8_plug) (maxL := 4) (ret := (some .int)) (by decide) rfl ?_
  intro p e s m args below meth c s₁ B hml hv
  obtain ⟨rfl, hP, hK, hS⟩ := x_entry hv
  have hx := B.exec
  have hb := B.bytes
  have hr := B.returns
  have hts := atoms_spec (ws := wsX8_plug) B.pre
  have hown : s.vm.findClass RX8 = some m.cls := findClass_of_methodNamed B.named
  have hlocks := B.notSynchronized
  have iX8 : ∀ w ∈ u_ws RX8 TX8 8, w ∈ wsX8_plug := by decide +kernel
  have hl := lv_entry ([.ref q, .int x]) (n := 4) (Nat.le_of_ble_eq_true rfl)
  rw [lg_entry_eq]
  generalize (lg_sl ([.ref q, .int x]) ++ List.replicate (4 - (lg_sl ([.ref q, .int x])).length) Slot.unset).toArray = ls at hl ⊢
  have hl : lv_has ls 4 [(0, .ref q), (1, .int x)] := hl
  have hfr : fr q 22 w w := fr.rf
  refine lv_aload_n hx hb dX8_plug_0 rfl (lv_at hl 0 rfl) ?_
  refine lv_iconst (v := 0) hx hb dX8_plug_1 (by decide) ?_
  refine x_put (ty := tyX8 0) (ref := RX8) (C := RX8) (T := TX8) (N := 8) (ci := 8) (v := .int (0 : Int32)) hx hb hts iX8 tyX8 tyX8_ok nmX8 hown hK.1 hP hS (by omega) (by omega) hM.self rfl 0 (by decide) (hts (.fieldLink RX8 29 "PoreFieldModel" "thrown" "I") (by decide +kernel)) (fun _ h9 => h9) rfl (by decide +kernel) rfl rfl (Nat.le_of_ble_eq_true rfl) dX8_plug_2 (fun H locs hP hS => ?_)
  refine x_gen hP (fun v1 e1 hP => ?_)
  have hF : FM cy v1 (q + 1) 0 300 := by rw [e1]; exact hF.o (by omega)
  have hM : MM cy v1 q 0 5 0 0 0 := by rw [e1]; exact hM.up_self (th' := 0) (pr' := 5) (bk' := 0) (bo' := 0) (bw' := 0)
  have hB : LB cy v1 q := by rw [e1]; exact hB.o (by omega)
  have hfr : fr q 22 w v1 := by rw [e1]; exact hfr.up (by omega) (by omega)
  refine lv_aload_n hx hb dX8_plug_5 rfl (lv_at hl 0 rfl) ?_
  refine lv_iload_n hx hb dX8_plug_6 rfl (lv_at hl 1 rfl) ?_
  refine x_calli (va_runV (As := [.int x]) (rest := []) ⟨hx, hb, hml, hown, hts⟩ (c_X8_isWell l D cy lo n v1 q (by omega) (by omega) 0 hM hB hF x) (cwV 1 hts gX8_plug_X8_isWell rfl rfl rfl (by decide +kernel) ⟨Nat.le_of_ble_eq_true rfl, Nat.le_of_ble_eq_true rfl⟩) (preV hP hK (x_recv (ci := 8) (q := (RX8, TX8, 8)) hK.1 hP (by omega) (by omega) rfl hM.self)) rfl rfl hl.1 rfl (lv_room (Nat.le_of_ble_eq_true rfl)) dX8_plug_7 ⟨Nat.le_of_ble_eq_true rfl, Nat.le_of_ble_eq_true rfl⟩) hS (fun H locs hP hS => ?_)
  refine lv_if_ne (tgt := 19) hx hb dX8_plug_10 (by decide) (fun h => absurd (by decide) h) (fun _ => ?_)
  refine lv_aload_n hx hb dX8_plug_13 rfl (lv_at hl 0 rfl) ?_
  refine lv_iconst (v := 1) hx hb dX8_plug_14 (by decide) ?_
  refine x_callx (va_runV (As := [.int (1 : Int32)]) (rest := []) ⟨hx, hb, hml, hown, hts⟩ (c_X8_no l D cy lo n v1 q (by omega) (by omega) 0 hM hB hF (1 : Int32)) (cwV 1 hts gX8_plug_X8_no rfl rfl rfl (by decide +kernel) ⟨Nat.le_of_ble_eq_true rfl, Nat.le_of_ble_eq_true rfl⟩) (preV hP hK (x_recv (ci := 8) (q := (RX8, TX8, 8)) hK.1 hP (by omega) (by omega) rfl hM.self)) rfl rfl hl.1 rfl (lv_room (Nat.le_of_ble_eq_true rfl)) dX8_plug_15 ⟨Nat.le_of_ble_eq_true rfl, Nat.le_of_ble_eq_true rfl⟩) hS (fun r9 u2 H locs hX hP hS => ?_)
  obtain ⟨rfl, hM, hB, hF, hf9⟩ := hX
  have hfr := hfr.tr hf9 (by omega) (by omega)
  have eS : r_plug x = (1, (0 : Int32)) := by unfold r_plug; first | rfl | decide
  exact W.iret (v := (0 : Int32)) hx hb hr (fun tE ht hW => ⟨⟨(0 : Int32), u2, rfl, by rw [eS]; exact ⟨⟨_, hM.self⟩, fun _ => rfl, hfr⟩, x_at ht hP⟩, hS.F ht⟩) hS.2.2 dX8_plug_18

def r_test (_x : Int32) : Int32 × Int32 := (1, 0)
set_option maxRecDepth 100000 in
set_option maxHeartbeats 1000000 in
/-- test -/
theorem c_X8_test (l : Launch) (D : va_G) (cy : Nat → ClassId) (lo n : Nat) (w : Nat → va_E) (q : Nat) (h1 : lo ≤ q) (h2 : q + 22 ≤ lo + n) (th : Int32) (hM : MM cy w q th 5 0 0 0) (hB : LB cy w q) (hF : FM cy w (q + 1) 0 300) (x : Int32) : Met l yX8_test wsX8_test ({ frames := 2, cells := 0, slots := 0, locals := 43 }) (PcW D cy lo n w [.ref q, .int x]) (QR D lo n q w (r_test x)) 0 0 (fun q : Nat => lo ≤ q) := by
  refine Met.ofW (cc := cX8_test) (maxL := 4) (ret := (some .boolean)) (by decide) rfl ?_
  intro p e s m args below meth c s₁ B hml hv
  obtain ⟨rfl, hP, hK, hS⟩ := x_entry hv
  have hx := B.exec
  have hb := B.bytes
  have hr := B.returns
  have hts := atoms_spec (ws := wsX8_test) B.pre
  have hown : s.vm.findClass RX8 = some m.cls := findClass_of_methodNamed B.named
  have hlocks := B.notSynchronized
  have iX8 : ∀ w ∈ u_ws RX8 TX8 8, w ∈ wsX8_test := by decide +kernel
  have hl := lv_entry ([.ref q, .int x]) (n := 4) (Nat.le_of_ble_eq_true rfl)
  rw [lg_entry_eq]
  generalize (lg_sl ([.ref q, .int x]) ++ List.replicate (4 - (lg_sl ([.ref q, .int x])).length) Slot.unset).toArray = ls at hl ⊢
  have hl : lv_has ls 4 [(0, .ref q), (1, .int x)] := hl
  have hfr : fr q 22 w w := fr.rf
  refine lv_aload_n hx hb dX8_test_0 rfl (lv_at hl 0 rfl) ?_
  refine lv_iconst (v := 0) hx hb dX8_test_1 (by decide) ?_
  refine x_put (ty := tyX8 0) (ref := RX8) (C := RX8) (T := TX8) (N := 8) (ci := 8) (v := .int (0 : Int32)) hx hb hts iX8 tyX8 tyX8_ok nmX8 hown hK.1 hP hS (by omega) (by omega) hM.self rfl 0 (by decide) (hts (.fieldLink RX8 29 "PoreFieldModel" "thrown" "I") (by decide +kernel)) (fun _ h9 => h9) rfl (by decide +kernel) rfl rfl (Nat.le_of_ble_eq_true rfl) dX8_test_2 (fun H locs hP hS => ?_)
  refine x_gen hP (fun v1 e1 hP => ?_)
  have hF : FM cy v1 (q + 1) 0 300 := by rw [e1]; exact hF.o (by omega)
  have hM : MM cy v1 q 0 5 0 0 0 := by rw [e1]; exact hM.up_self (th' := 0) (pr' := 5) (bk' := 0) (bo' := 0) (bw' := 0)
  have hB : LB cy v1 q := by rw [e1]; exact hB.o (by omega)
  have hfr : fr q 22 w v1 := by rw [e1]; exact hfr.up (by omega) (by omega)
  refine lv_aload_n hx hb dX8_test_5 rfl (lv_at hl 0 rfl) ?_
  refine lv_iload_n hx hb dX8_test_6 rfl (lv_at hl 1 rfl) ?_
  refine x_calli (va_runV (As := [.int x]) (rest := []) ⟨hx, hb, hml, hown, hts⟩ (c_X8_isWell l D cy lo n v1 q (by omega) (by omega) 0 hM hB hF x) (cwV 1 hts gX8_test_X8_isWell rfl rfl rfl (by decide +kernel) ⟨Nat.le_of_ble_eq_true rfl, Nat.le_of_ble_eq_true rfl⟩) (preV hP hK (x_recv (ci := 8) (q := (RX8, TX8, 8)) hK.1 hP (by omega) (by omega) rfl hM.self)) rfl rfl hl.1 rfl (lv_room (Nat.le_of_ble_eq_true rfl)) dX8_test_7 ⟨Nat.le_of_ble_eq_true rfl, Nat.le_of_ble_eq_true rfl⟩) hS (fun H locs hP hS => ?_)
  refine lv_if_ne (tgt := 27) hx hb dX8_test_10 (by decide) (fun h => absurd (by decide) h) (fun _ => ?_)
  refine lv_aload_n hx hb dX8_test_13 rfl (lv_at hl 0 rfl) ?_
  refine lv_iconst (v := 1) hx hb dX8_test_14 (by decide) ?_
  refine x_callx (va_runV (As := [.int (1 : Int32)]) (rest := []) ⟨hx, hb, hml, hown, hts⟩ (c_X8_no l D cy lo n v1 q (by omega) (by omega) 0 hM hB hF (1 : Int32)) (cwV 1 hts gX8_test_X8_no rfl rfl rfl (by decide +kernel) ⟨Nat.le_of_ble_eq_true rfl, Nat.le_of_ble_eq_true rfl⟩) (preV hP hK (x_recv (ci := 8) (q := (RX8, TX8, 8)) hK.1 hP (by omega) (by omega) rfl hM.self)) rfl rfl hl.1 rfl (lv_room (Nat.le_of_ble_eq_true rfl)) dX8_test_15 ⟨Nat.le_of_ble_eq_true rfl, Nat.le_of_ble_eq_true rfl⟩) hS (fun r9 u2 H locs hX hP hS => ?_)
  obtain ⟨rfl, hM, hB, hF, hf9⟩ := hX
  have hfr := hfr.tr hf9 (by omega) (by omega)
  refine lv_if_le (tgt := 25) hx hb dX8_test_18 (by decide) (fun _ => ?_) (fun h => absurd (by decide) h)
  refine lv_iconst (v := 0) hx hb dX8_test_25 (by decide) ?_
  have eS : r_test x = (1, (0 : Int32)) := by unfold r_test; first | rfl | decide
  exact W.zret (v := (0 : Int32)) hx hb hr rfl (fun tE ht hW => ⟨⟨(0 : Int32), u2, rfl, by rw [eS]; exact ⟨⟨_, hM.self⟩, fun _ => rfl, hfr⟩, x_at ht hP⟩, hS.F ht⟩) hS.2.2 dX8_test_26

def r_price (x : Int32) : Int32 × Int32 := if 0 ≤ x ∧ x ≤ 99 then (0, 5) else (1, 0)
set_option maxRecDepth 100000 in
set_option maxHeartbeats 1000000 in
/-- price -/
theorem c_X8_price (l : Launch) (D : va_G) (cy : Nat → ClassId) (lo n : Nat) (w : Nat → va_E) (q : Nat) (h1 : lo ≤ q) (h2 : q + 22 ≤ lo + n) (th : Int32) (hM : MM cy w q th 5 0 0 0) (hB : LB cy w q) (hF : FM cy w (q + 1) 0 300) (x : Int32) : Met l yX8_price wsX8_price ({ frames := 1, cells := 0, slots := 0, locals := 22 }) (PcW D cy lo n w [.ref q, .int x]) (QR D lo n q w (r_price x)) 0 0 (fun q : Nat => lo ≤ q) := by
  refine Met.ofW (cc := cX8_price) (maxL := 3) (ret := (some .int)) (by decide) rfl ?_
  intro p e s m args below meth c s₁ B hml hv
  obtain ⟨rfl, hP, hK, hS⟩ := x_entry hv
  have hx := B.exec
  have hb := B.bytes
  have hr := B.returns
  have hts := atoms_spec (ws := wsX8_price) B.pre
  have hown : s.vm.findClass RX8 = some m.cls := findClass_of_methodNamed B.named
  have hlocks := B.notSynchronized
  have iX8 : ∀ w ∈ u_ws RX8 TX8 8, w ∈ wsX8_price := by decide +kernel
  have hl := lv_entry ([.ref q, .int x]) (n := 3) (Nat.le_of_ble_eq_true rfl)
  rw [lg_entry_eq]
  generalize (lg_sl ([.ref q, .int x]) ++ List.replicate (3 - (lg_sl ([.ref q, .int x])).length) Slot.unset).toArray = ls at hl ⊢
  have hl : lv_has ls 3 [(0, .ref q), (1, .int x)] := hl
  have hfr : fr q 22 w w := fr.rf
  refine lv_aload_n hx hb dX8_price_0 rfl (lv_at hl 0 rfl) ?_
  refine lv_iconst (v := 0) hx hb dX8_price_1 (by decide) ?_
  refine x_put (ty := tyX8 0) (ref := RX8) (C := RX8) (T := TX8) (N := 8) (ci := 8) (v := .int (0 : Int32)) hx hb hts iX8 tyX8 tyX8_ok nmX8 hown hK.1 hP hS (by omega) (by omega) hM.self rfl 0 (by decide) (hts (.fieldLink RX8 29 "PoreFieldModel" "thrown" "I") (by decide +kernel)) (fun _ h9 => h9) rfl (by decide +kernel) rfl rfl (Nat.le_of_ble_eq_true rfl) dX8_price_2 (fun H locs hP hS => ?_)
  refine x_gen hP (fun v1 e1 hP => ?_)
  have hF : FM cy v1 (q + 1) 0 300 := by rw [e1]; exact hF.o (by omega)
  have hM : MM cy v1 q 0 5 0 0 0 := by rw [e1]; exact hM.up_self (th' := 0) (pr' := 5) (bk' := 0) (bo' := 0) (bw' := 0)
  have hB : LB cy v1 q := by rw [e1]; exact hB.o (by omega)
  have hfr : fr q 22 w v1 := by rw [e1]; exact hfr.up (by omega) (by omega)
  refine lv_iload_n hx hb dX8_price_5 rfl (lv_at hl 1 rfl) ?_
  refine lv_iconst (v := 0) hx hb dX8_price_6 (by decide) ?_
  refine lv_bipush (v := 99) hx hb dX8_price_7 (by decide) ?_
  refine x_calli (va_runS (As := [.int x, .int (0 : Int32), .int (99 : Int32)]) (rest := []) ⟨hx, hb, hml, hown, hts⟩ (c_X8_in l D cy lo n v1 x (0 : Int32) (99 : Int32)) (va_cwS 3 hts gX8_price_X8_in rfl rfl rfl (by decide +kernel) ⟨Nat.le_of_ble_eq_true rfl, Nat.le_of_ble_eq_true rfl⟩) (preS hP hK) rfl rfl hl.1 rfl (lv_room (Nat.le_of_ble_eq_true rfl)) dX8_price_9 ⟨Nat.le_of_ble_eq_true rfl, Nat.le_of_ble_eq_true rfl⟩) hS (fun H locs hP hS => ?_)
  by_cases c_9 : (0 : Int32) ≤ x ∧ x ≤ (99 : Int32)
  · refine x_top (v' := (1 : Int32)) (if_pos c_9) ?_
    refine lv_if_ne (tgt := 21) hx hb dX8_price_12 (by decide) (fun _ => ?_) (fun h => absurd h (by decide))
    refine lv_aload_n hx hb dX8_price_21 rfl (lv_at hl 0 rfl) ?_
    refine x_get (ref := RX8) (C := RX8) (T := TX8) (N := 8) (ci := 8) (v := .int (5 : Int32)) hx hb hts iX8 hown hK.1 hP (by omega) (by omega) hM.self rfl 4 (by decide) (hts (.fieldLink RX8 25 "PoreFieldModel" "price" "I") (by decide +kernel)) (fun _ h9 => h9) rfl dX8_price_22 ?_
    refine lv_istore_n (lv' := [(2, .int (5 : Int32)), (0, .ref q), (1, .int x)]) hx hb dX8_price_25 rfl hl (by decide) rfl (fun ls hl => ?_)
    refine lv_aload_n hx hb dX8_price_26 rfl (lv_at hl 1 rfl) ?_
    refine lv_iload_n hx hb dX8_price_27 rfl (lv_at hl 2 rfl) ?_
    refine x_put (ty := tyX8 4) (ref := RX8) (C := RX8) (T := TX8) (N := 8) (ci := 8) (v := .int x) hx hb hts iX8 tyX8 tyX8_ok nmX8 hown hK.1 hP hS (by omega) (by omega) hM.self rfl 4 (by decide) (hts (.fieldLink RX8 25 "PoreFieldModel" "price" "I") (by decide +kernel)) (fun _ h9 => h9) rfl (by decide +kernel) rfl rfl (Nat.le_of_ble_eq_true rfl) dX8_price_28 (fun H locs hP hS => ?_)
    refine x_gen hP (fun v2 e2 hP => ?_)
    have hF : FM cy v2 (q + 1) 0 300 := by rw [e2]; exact hF.o (by omega)
    have hM : MM cy v2 q 0 x 0 0 0 := by rw [e2]; exact hM.up_self (th' := 0) (pr' := x) (bk' := 0) (bo' := 0) (bw' := 0)
    have hB : LB cy v2 q := by rw [e2]; exact hB.o (by omega)
    have hfr : fr q 22 w v2 := by rw [e2]; exact hfr.up (by omega) (by omega)
    refine lv_iload_n hx hb dX8_price_31 rfl (lv_at hl 0 rfl) ?_
    have eS : r_price x = (0, (5 : Int32)) := by unfold r_price; rw [if_pos c_9] <;> first | rfl | decide
    exact W.iret (v := (5 : Int32)) hx hb hr (fun tE ht hW => ⟨⟨(5 : Int32), v2, rfl, by rw [eS]; exact ⟨⟨_, hM.self⟩, fun _ => rfl, hfr⟩, x_at ht hP⟩, hS.F ht⟩) hS.2.2 dX8_price_32
  · refine x_top (v' := (0 : Int32)) (if_neg c_9) ?_
    refine lv_if_ne (tgt := 21) hx hb dX8_price_12 (by decide) (fun h => absurd (by decide) h) (fun _ => ?_)
    refine lv_aload_n hx hb dX8_price_15 rfl (lv_at hl 0 rfl) ?_
    refine lv_iconst (v := 1) hx hb dX8_price_16 (by decide) ?_
    refine x_callx (va_runV (As := [.int (1 : Int32)]) (rest := []) ⟨hx, hb, hml, hown, hts⟩ (c_X8_no l D cy lo n v1 q (by omega) (by omega) 0 hM hB hF (1 : Int32)) (cwV 1 hts gX8_price_X8_no rfl rfl rfl (by decide +kernel) ⟨Nat.le_of_ble_eq_true rfl, Nat.le_of_ble_eq_true rfl⟩) (preV hP hK (x_recv (ci := 8) (q := (RX8, TX8, 8)) hK.1 hP (by omega) (by omega) rfl hM.self)) rfl rfl hl.1 rfl (lv_room (Nat.le_of_ble_eq_true rfl)) dX8_price_17 ⟨Nat.le_of_ble_eq_true rfl, Nat.le_of_ble_eq_true rfl⟩) hS (fun r9 u3 H locs hX hP hS => ?_)
    obtain ⟨rfl, hM, hB, hF, hf9⟩ := hX
    have hfr := hfr.tr hf9 (by omega) (by omega)
    have eS : r_price x = (1, (0 : Int32)) := by unfold r_price; rw [if_neg c_9] <;> first | rfl | decide
    exact W.iret (v := (0 : Int32)) hx hb hr (fun tE ht hW => ⟨⟨(0 : Int32), u3, rfl, by rw [eS]; exact ⟨⟨_, hM.self⟩, fun _ => rfl, hfr⟩, x_at ht hP⟩, hS.F ht⟩) hS.2.2 dX8_price_20

def r_booked (x : Int32) : Int32 × Int32 := if 0 ≤ x ∧ x ≤ 4 then (0, if x = 4 then -1 else 0) else (1, 0)
set_option maxRecDepth 100000 in
set_option maxHeartbeats 1000000 in
/-- booked -/
theorem c_X8_booked (l : Launch) (D : va_G) (cy : Nat → ClassId) (lo n : Nat) (w : Nat → va_E) (q : Nat) (h1 : lo ≤ q) (h2 : q + 22 ≤ lo + n) (th : Int32) (hM : MM cy w q th 5 0 0 0) (hB : LB cy w q) (hF : FM cy w (q + 1) 0 300) (x : Int32) : Met l yX8_booked wsX8_booked ({ frames := 1, cells := 0, slots := 0, locals := 22 }) (PcW D cy lo n w [.ref q, .int x]) (QR D lo n q w (r_booked x)) 0 0 (fun q : Nat => lo ≤ q) := by
  refine Met.ofW (cc := cX8_booked) (maxL := 2) (ret := (some .int)) (by decide) rfl ?_
  intro p e s m args below meth c s₁ B hml hv
  obtain ⟨rfl, hP, hK, hS⟩ := x_entry hv
  have hx := B.exec
  have hb := B.bytes
  have hr := B.returns
  have hts := atoms_spec (ws := wsX8_booked) B.pre
  have hown : s.vm.findClass RX8 = some m.cls := findClass_of_methodNamed B.named
  have hlocks := B.notSynchronized
  have iX8 : ∀ w ∈ u_ws RX8 TX8 8, w ∈ wsX8_booked := by decide +kernel
  have hl := lv_entry ([.ref q, .int x]) (n := 2) (Nat.le_of_ble_eq_true rfl)
  rw [lg_entry_eq]
  generalize (lg_sl ([.ref q, .int x]) ++ List.replicate (2 - (lg_sl ([.ref q, .int x])).length) Slot.unset).toArray = ls at hl ⊢
  have hl : lv_has ls 2 [(0, .ref q), (1, .int x)] := hl
  have hfr : fr q 22 w w := fr.rf
  refine lv_aload_n hx hb dX8_booked_0 rfl (lv_at hl 0 rfl) ?_
  refine lv_iconst (v := 0) hx hb dX8_booked_1 (by decide) ?_
  refine x_put (ty := tyX8 0) (ref := RX8) (C := RX8) (T := TX8) (N := 8) (ci := 8) (v := .int (0 : Int32)) hx hb hts iX8 tyX8 tyX8_ok nmX8 hown hK.1 hP hS (by omega) (by omega) hM.self rfl 0 (by decide) (hts (.fieldLink RX8 29 "PoreFieldModel" "thrown" "I") (by decide +kernel)) (fun _ h9 => h9) rfl (by decide +kernel) rfl rfl (Nat.le_of_ble_eq_true rfl) dX8_booked_2 (fun H locs hP hS => ?_)
  refine x_gen hP (fun v1 e1 hP => ?_)
  have hF : FM cy v1 (q + 1) 0 300 := by rw [e1]; exact hF.o (by omega)
  have hM : MM cy v1 q 0 5 0 0 0 := by rw [e1]; exact hM.up_self (th' := 0) (pr' := 5) (bk' := 0) (bo' := 0) (bw' := 0)
  have hB : LB cy v1 q := by rw [e1]; exact hB.o (by omega)
  have hfr : fr q 22 w v1 := by rw [e1]; exact hfr.up (by omega) (by omega)
  refine lv_iload_n hx hb dX8_booked_5 rfl (lv_at hl 1 rfl) ?_
  refine lv_iconst (v := 0) hx hb dX8_booked_6 (by decide) ?_
  refine lv_iconst (v := 4) hx hb dX8_booked_7 (by decide) ?_
  refine x_calli (va_runS (As := [.int x, .int (0 : Int32), .int (4 : Int32)]) (rest := []) ⟨hx, hb, hml, hown, hts⟩ (c_X8_in l D cy lo n v1 x (0 : Int32) (4 : Int32)) (va_cwS 3 hts gX8_booked_X8_in rfl rfl rfl (by decide +kernel) ⟨Nat.le_of_ble_eq_true rfl, Nat.le_of_ble_eq_true rfl⟩) (preS hP hK) rfl rfl hl.1 rfl (lv_room (Nat.le_of_ble_eq_true rfl)) dX8_booked_8 ⟨Nat.le_of_ble_eq_true rfl, Nat.le_of_ble_eq_true rfl⟩) hS (fun H locs hP hS => ?_)
  by_cases c_8 : (0 : Int32) ≤ x ∧ x ≤ (4 : Int32)
  · refine x_top (v' := (1 : Int32)) (if_pos c_8) ?_
    obtain ⟨xi, h_xi, e_xi⟩ := nI_of2 (n := 4) (by decide) (Int32.not_lt.mpr (Int32.le_trans (by decide) c_8.1)) c_8.2
    subst e_xi
    refine lv_if_ne (tgt := 20) hx hb dX8_booked_11 (by decide) (fun _ => ?_) (fun h => absurd h (by decide))
    rcases (by omega : xi = 0 ∨ xi = 1 ∨ xi = 2 ∨ xi = 3 ∨ xi = 4) with rfl | rfl | rfl | rfl | rfl
    · refine lv_aload_n hx hb dX8_booked_20 rfl (lv_at hl 0 rfl) ?_
      refine x_get (ref := RX8) (C := RX8) (T := TX8) (N := 8) (ci := 8) (v := .ref (q + 21)) hx hb hts iX8 hown hK.1 hP (by omega) (by omega) hM.self rfl 3 (by decide) (hts (.fieldLink RX8 22 "PoreFieldModel" "lastBook" "[I") (by decide +kernel)) (fun _ h9 => h9) rfl dX8_booked_21 ?_
      refine lv_iload_n hx hb dX8_booked_24 rfl (lv_at hl 1 rfl) ?_
      obtain ⟨d1, g1, l1_0, l1_1, l1_2, l1_3, l1_4⟩ := id hB
      refine x_iald hx hb hK.1 hP (by omega) (by omega) 0 g1 rfl (cl_of_nI (i := 0) rfl (by omega)) (vp_in_of_nI (i := 0) rfl (by omega) (by omega)) dX8_booked_25 ?_
      refine x_top (v' := (0 : Int32)) l1_0 ?_
      have eS : r_booked (nI 0) = (0, (0 : Int32)) := by unfold r_booked; rw [if_pos c_8] <;> first | rfl | decide
      exact W.iret (v := (0 : Int32)) hx hb hr (fun tE ht hW => ⟨⟨(0 : Int32), v1, rfl, by rw [eS]; exact ⟨⟨_, hM.self⟩, fun _ => rfl, hfr⟩, x_at ht hP⟩, hS.F ht⟩) hS.2.2 dX8_booked_26
    · refine lv_aload_n hx hb dX8_booked_20 rfl (lv_at hl 0 rfl) ?_
      refine x_get (ref := RX8) (C := RX8) (T := TX8) (N := 8) (ci := 8) (v := .ref (q + 21)) hx hb hts iX8 hown hK.1 hP (by omega) (by omega) hM.self rfl 3 (by decide) (hts (.fieldLink RX8 22 "PoreFieldModel" "lastBook" "[I") (by decide +kernel)) (fun _ h9 => h9) rfl dX8_booked_21 ?_
      refine lv_iload_n hx hb dX8_booked_24 rfl (lv_at hl 1 rfl) ?_
      obtain ⟨d2, g2, l2_0, l2_1, l2_2, l2_3, l2_4⟩ := id hB
      refine x_iald hx hb hK.1 hP (by omega) (by omega) 0 g2 rfl (cl_of_nI (i := 1) rfl (by omega)) (vp_in_of_nI (i := 1) rfl (by omega) (by omega)) dX8_booked_25 ?_
      refine x_top (v' := (0 : Int32)) l2_1 ?_
      have eS : r_booked (nI 1) = (0, (0 : Int32)) := by unfold r_booked; rw [if_pos c_8] <;> first | rfl | decide
      exact W.iret (v := (0 : Int32)) hx hb hr (fun tE ht hW => ⟨⟨(0 : Int32), v1, rfl, by rw [eS]; exact ⟨⟨_, hM.self⟩, fun _ => rfl, hfr⟩, x_at ht hP⟩, hS.F ht⟩) hS.2.2 dX8_booked_26
    · refine lv_aload_n hx hb dX8_booked_20 rfl (lv_at hl 0 rfl) ?_
      refine x_get (ref := RX8) (C := RX8) (T := TX8) (N := 8) (ci := 8) (v := .ref (q + 21)) hx hb hts iX8 hown hK.1 hP (by omega) (by omega) hM.self rfl 3 (by decide) (hts (.fieldLink RX8 22 "PoreFieldModel" "lastBook" "[I") (by decide +kernel)) (fun _ h9 => h9) rfl dX8_booked_21 ?_
      refine lv_iload_n hx hb dX8_booked_24 rfl (lv_at hl 1 rfl) ?_
      obtain ⟨d3, g3, l3_0, l3_1, l3_2, l3_3, l3_4⟩ := id hB
      refine x_iald hx hb hK.1 hP (by omega) (by omega) 0 g3 rfl (cl_of_nI (i := 2) rfl (by omega)) (vp_in_of_nI (i := 2) rfl (by omega) (by omega)) dX8_booked_25 ?_
      refine x_top (v' := (0 : Int32)) l3_2 ?_
      have eS : r_booked (nI 2) = (0, (0 : Int32)) := by unfold r_booked; rw [if_pos c_8] <;> first | rfl | decide
      exact W.iret (v := (0 : Int32)) hx hb hr (fun tE ht hW => ⟨⟨(0 : Int32), v1, rfl, by rw [eS]; exact ⟨⟨_, hM.self⟩, fun _ => rfl, hfr⟩, x_at ht hP⟩, hS.F ht⟩) hS.2.2 dX8_booked_26
    · refine lv_aload_n hx hb dX8_booked_20 rfl (lv_at hl 0 rfl) ?_
      refine x_get (ref := RX8) (C := RX8) (T := TX8) (N := 8) (ci := 8) (v := .ref (q + 21)) hx hb hts iX8 hown hK.1 hP (by omega) (by omega) hM.self rfl 3 (by decide) (hts (.fieldLink RX8 22 "PoreFieldModel" "lastBook" "[I") (by decide +kernel)) (fun _ h9 => h9) rfl dX8_booked_21 ?_
      refine lv_iload_n hx hb dX8_booked_24 rfl (lv_at hl 1 rfl) ?_
      obtain ⟨d4, g4, l4_0, l4_1, l4_2, l4_3, l4_4⟩ := id hB
      refine x_iald hx hb hK.1 hP (by omega) (by omega) 0 g4 rfl (cl_of_nI (i := 3) rfl (by omega)) (vp_in_of_nI (i := 3) rfl (by omega) (by omega)) dX8_booked_25 ?_
      refine x_top (v' := (0 : Int32)) l4_3 ?_
      have eS : r_booked (nI 3) = (0, (0 : Int32)) := by unfold r_booked; rw [if_pos c_8] <;> first | rfl | decide
      exact W.iret (v := (0 : Int32)) hx hb hr (fun tE ht hW => ⟨⟨(0 : Int32), v1, rfl, by rw [eS]; exact ⟨⟨_, hM.self⟩, fun _ => rfl, hfr⟩, x_at ht hP⟩, hS.F ht⟩) hS.2.2 dX8_booked_26
    · refine lv_aload_n hx hb dX8_booked_20 rfl (lv_at hl 0 rfl) ?_
      refine x_get (ref := RX8) (C := RX8) (T := TX8) (N := 8) (ci := 8) (v := .ref (q + 21)) hx hb hts iX8 hown hK.1 hP (by omega) (by omega) hM.self rfl 3 (by decide) (hts (.fieldLink RX8 22 "PoreFieldModel" "lastBook" "[I") (by decide +kernel)) (fun _ h9 => h9) rfl dX8_booked_21 ?_
      refine lv_iload_n hx hb dX8_booked_24 rfl (lv_at hl 1 rfl) ?_
      obtain ⟨d5, g5, l5_0, l5_1, l5_2, l5_3, l5_4⟩ := id hB
      refine x_iald hx hb hK.1 hP (by omega) (by omega) 0 g5 rfl (cl_of_nI (i := 4) rfl (by omega)) (vp_in_of_nI (i := 4) rfl (by omega) (by omega)) dX8_booked_25 ?_
      refine x_top (v' := (-1 : Int32)) l5_4 ?_
      have eS : r_booked (nI 4) = (0, (-1 : Int32)) := by unfold r_booked; rw [if_pos c_8] <;> first | rfl | decide
      exact W.iret (v := (-1 : Int32)) hx hb hr (fun tE ht hW => ⟨⟨(-1 : Int32), v1, rfl, by rw [eS]; exact ⟨⟨_, hM.self⟩, fun _ => rfl, hfr⟩, x_at ht hP⟩, hS.F ht⟩) hS.2.2 dX8_booked_26
  · refine x_top (v' := (0 : Int32)) (if_neg c_8) ?_
    refine lv_if_ne (tgt := 20) hx hb dX8_booked_11 (by decide) (fun h => absurd (by decide) h) (fun _ => ?_)
    refine lv_aload_n hx hb dX8_booked_14 rfl (lv_at hl 0 rfl) ?_
    refine lv_iconst (v := 1) hx hb dX8_booked_15 (by decide) ?_
    refine x_callx (va_runV (As := [.int (1 : Int32)]) (rest := []) ⟨hx, hb, hml, hown, hts⟩ (c_X8_no l D cy lo n v1 q (by omega) (by omega) 0 hM hB hF (1 : Int32)) (cwV 1 hts gX8_booked_X8_no rfl rfl rfl (by decide +kernel) ⟨Nat.le_of_ble_eq_true rfl, Nat.le_of_ble_eq_true rfl⟩) (preV hP hK (x_recv (ci := 8) (q := (RX8, TX8, 8)) hK.1 hP (by omega) (by omega) rfl hM.self)) rfl rfl hl.1 rfl (lv_room (Nat.le_of_ble_eq_true rfl)) dX8_booked_16 ⟨Nat.le_of_ble_eq_true rfl, Nat.le_of_ble_eq_true rfl⟩) hS (fun r9 u2 H locs hX hP hS => ?_)
    obtain ⟨rfl, hM, hB, hF, hf9⟩ := hX
    have hfr := hfr.tr hf9 (by omega) (by omega)
    have eS : r_booked x = (1, (0 : Int32)) := by unfold r_booked; rw [if_neg c_8] <;> first | rfl | decide
    exact W.iret (v := (0 : Int32)) hx hb hr (fun tE ht hW => ⟨⟨(0 : Int32), u2, rfl, by rw [eS]; exact ⟨⟨_, hM.self⟩, fun _ => rfl, hfr⟩, x_at ht hP⟩, hS.F ht⟩) hS.2.2 dX8_booked_19

set_option maxRecDepth 100000 in
set_option maxHeartbeats 1000000 in
/-- mayNow -/
theorem c_X8_mayNow (l : Launch) (D : va_G) (cy : Nat → ClassId) (lo n : Nat) (w : Nat → va_E) (q : Nat) (h1 : lo ≤ q) (h2 : q + 22 ≤ lo + n) (th : Int32) (hM : MM cy w q th 5 0 0 0) (hB : LB cy w q) (hF : FM cy w (q + 1) 0 300) (xi : Nat) (hxi : xi < 3) : Met l yX8_mayNow wsX8_mayNow ({ frames := 1, cells := 0, slots := 0, locals := 30 }) (PcW D cy lo n w [.ref q, .int (nI xi)]) (QiW D lo n w 0) 0 0 (fun q : Nat => lo ≤ q) := by
  refine Met.ofW (cc := cX8_mayNow) (maxL := 2) (ret := (some .int)) (by decide) rfl ?_
  intro p e s m args below meth c s₁ B hml hv
  obtain ⟨rfl, hP, hK, hS⟩ := x_entry hv
  have hx := B.exec
  have hb := B.bytes
  have hr := B.returns
  have hts := atoms_spec (ws := wsX8_mayNow) B.pre
  have hown : s.vm.findClass RX8 = some m.cls := findClass_of_methodNamed B.named
  have hlocks := B.notSynchronized
  have iX7 : ∀ w ∈ u_ws RX7 TX7 14, w ∈ wsX8_mayNow := by decide +kernel
  have iX8 : ∀ w ∈ u_ws RX8 TX8 8, w ∈ wsX8_mayNow := by decide +kernel
  have hl := lv_entry ([.ref q, .int (nI xi)]) (n := 2) (Nat.le_of_ble_eq_true rfl)
  rw [lg_entry_eq]
  generalize (lg_sl ([.ref q, .int (nI xi)]) ++ List.replicate (2 - (lg_sl ([.ref q, .int (nI xi)])).length) Slot.unset).toArray = ls at hl ⊢
  have hl : lv_has ls 2 [(0, .ref q), (1, .int (nI xi))] := hl
  refine lv_iconst (v := 0) hx hb dX8_mayNow_0 (by decide) ?_
  refine lv_aload_n hx hb dX8_mayNow_1 rfl (lv_at hl 0 rfl) ?_
  refine x_get (ref := RX8) (C := RX8) (T := TX8) (N := 8) (ci := 8) (v := .ref (q + 1)) hx hb hts iX8 hown hK.1 hP (by omega) (by omega) hM.self rfl 1 (by decide) (hts (.fieldLink RX8 10 "PoreFieldModel" "field" "LPoreFieldModel$Field;") (by decide +kernel)) (fun _ h9 => h9) rfl dX8_mayNow_2 ?_
  refine x_get (ref := RX7) (C := RX7) (T := TX7) (N := 14) (ci := 7) (v := .int (0 : Int32)) hx hb hts iX7 hown hK.1 hP (by omega) (by omega) hF.self rfl 13 (by decide) (hts (.fieldLink RX8 79 "PoreFieldModel$Field" "stored" "I") (by decide +kernel)) (fun _ h9 => h9) rfl dX8_mayNow_5 ?_
  refine lv_aload_n hx hb dX8_mayNow_8 rfl (lv_at hl 0 rfl) ?_
  refine x_get (ref := RX8) (C := RX8) (T := TX8) (N := 8) (ci := 8) (v := .ref (q + 17)) hx hb hts iX8 hown hK.1 hP (by omega) (by omega) hM.self rfl 2 (by decide) (hts (.fieldLink RX8 18 "PoreFieldModel" "partners" "[[I") (by decide +kernel)) (fun _ h9 => h9) rfl dX8_mayNow_9 ?_
  refine lv_iload_n hx hb dX8_mayNow_12 rfl (lv_at hl 1 rfl) ?_
  obtain ⟨y1, g1, o1⟩ := hM.outer
  refine x_aaldA (b := (q + 18 + xi)) hx hb hK.1 hP (by omega) (by omega) 6 g1 rfl (cl_of_nI (i := xi) rfl (by omega)) (o1 xi (by omega)) (vp_in_of_nI (i := xi) rfl (by omega) (by omega)) dX8_mayNow_13 ?_
  refine lv_iconst (v := 1) hx hb dX8_mayNow_14 (by decide) ?_
  obtain ⟨d2, g2, j2, z2⟩ := hM.row xi (by omega)
  refine x_iald hx hb hK.1 hP (by omega) (by omega) 0 g2 rfl (cl_of_nI (i := 1) rfl (by omega)) (vp_in_of_nI (i := 1) rfl (by omega) (by omega)) dX8_mayNow_15 ?_
  refine x_top (v' := (0 : Int32)) (z2 1 (by omega) (by omega)) ?_
  refine lv_aload_n hx hb dX8_mayNow_16 rfl (lv_at hl 0 rfl) ?_
  refine x_get (ref := RX8) (C := RX8) (T := TX8) (N := 8) (ci := 8) (v := .ref (q + 17)) hx hb hts iX8 hown hK.1 hP (by omega) (by omega) hM.self rfl 2 (by decide) (hts (.fieldLink RX8 18 "PoreFieldModel" "partners" "[[I") (by decide +kernel)) (fun _ h9 => h9) rfl dX8_mayNow_17 ?_
  refine lv_iload_n hx hb dX8_mayNow_20 rfl (lv_at hl 1 rfl) ?_
  obtain ⟨y3, g3, o3⟩ := hM.outer
  refine x_aaldA (b := (q + 18 + xi)) hx hb hK.1 hP (by omega) (by omega) 6 g3 rfl (cl_of_nI (i := xi) rfl (by omega)) (o3 xi (by omega)) (vp_in_of_nI (i := xi) rfl (by omega) (by omega)) dX8_mayNow_21 ?_
  refine lv_iconst (v := 2) hx hb dX8_mayNow_22 (by decide) ?_
  obtain ⟨d4, g4, j4, z4⟩ := hM.row xi (by omega)
  refine x_iald hx hb hK.1 hP (by omega) (by omega) 0 g4 rfl (cl_of_nI (i := 2) rfl (by omega)) (vp_in_of_nI (i := 2) rfl (by omega) (by omega)) dX8_mayNow_23 ?_
  refine x_top (v' := (0 : Int32)) (z4 2 (by omega) (by omega)) ?_
  refine lv_isub hx hb dX8_mayNow_24 ?_
  refine x_top (v' := 0) (by decide) ?_
  refine lv_bipush (v := 20) hx hb dX8_mayNow_25 (by decide) ?_
  refine lv_iadd hx hb dX8_mayNow_27 ?_
  refine x_top (v' := 20) (by decide) ?_
  refine va_mmin (own := RX8) hx hb (hml.trans hl.1.symm) hown (hts (.methodLink RX8 89 Lib.Math.min.name) (by decide +kernel)) (hts (.static Lib.Math.min.name) (by decide +kernel)) (hts (.initialized "java/lang/Math") (by decide +kernel)) (hts (.code Lib.Math.min.name Lib.Math.min.code 2 (some .int)) (by decide +kernel)) (Nat.le_of_ble_eq_true rfl) (Nat.le_of_ble_eq_true rfl) (Nat.zero_le _) (Nat.zero_le _) dX8_mayNow_28 ?_
  refine x_top (v' := 0) (by decide) ?_
  refine va_mmax (own := RX8) hx hb (hml.trans hl.1.symm) hown (hts (.methodLink RX8 95 Lib.Math.max.name) (by decide +kernel)) (hts (.static Lib.Math.max.name) (by decide +kernel)) (hts (.initialized "java/lang/Math") (by decide +kernel)) (hts (.code Lib.Math.max.name Lib.Math.max.code 2 (some .int)) (by decide +kernel)) (Nat.le_of_ble_eq_true rfl) (Nat.le_of_ble_eq_true rfl) (Nat.zero_le _) (Nat.zero_le _) dX8_mayNow_31 ?_
  refine x_top (v' := 0) (by decide) ?_
  exact W.iret (v := (0 : Int32)) hx hb hr (fun tE ht hW => ⟨⟨(0 : Int32), (), rfl, rfl, x_at ht hP⟩, hS.F ht⟩) hS.2.2 dX8_mayNow_34

def r_mayLift (x : Int32) : Int32 × Int32 := if 0 ≤ x ∧ x ≤ 2 then (0, 0) else (1, 0)
set_option maxRecDepth 100000 in
set_option maxHeartbeats 1000000 in
/-- mayLift -/
theorem c_X8_mayLift (l : Launch) (D : va_G) (cy : Nat → ClassId) (lo n : Nat) (w : Nat → va_E) (q : Nat) (h1 : lo ≤ q) (h2 : q + 22 ≤ lo + n) (th : Int32) (hM : MM cy w q th 5 0 0 0) (hB : LB cy w q) (hF : FM cy w (q + 1) 0 300) (x : Int32) : Met l yX8_mayLift wsX8_mayLift ({ frames := 2, cells := 0, slots := 0, locals := 51 }) (PcW D cy lo n w [.ref q, .int x]) (QR D lo n q w (r_mayLift x)) 0 0 (fun q : Nat => lo ≤ q) := by
  refine Met.ofW (cc := cX8_mayLift) (maxL := 2) (ret := (some .int)) (by decide) rfl ?_
  intro p e s m args below meth c s₁ B hml hv
  obtain ⟨rfl, hP, hK, hS⟩ := x_entry hv
  have hx := B.exec
  have hb := B.bytes
  have hr := B.returns
  have hts := atoms_spec (ws := wsX8_mayLift) B.pre
  have hown : s.vm.findClass RX8 = some m.cls := findClass_of_methodNamed B.named
  have hlocks := B.notSynchronized
  have iX8 : ∀ w ∈ u_ws RX8 TX8 8, w ∈ wsX8_mayLift := by decide +kernel
  have hl := lv_entry ([.ref q, .int x]) (n := 2) (Nat.le_of_ble_eq_true rfl)
  rw [lg_entry_eq]
  generalize (lg_sl ([.ref q, .int x]) ++ List.replicate (2 - (lg_sl ([.ref q, .int x])).length) Slot.unset).toArray = ls at hl ⊢
  have hl : lv_has ls 2 [(0, .ref q), (1, .int x)] := hl
  have hfr : fr q 22 w w := fr.rf
  refine lv_aload_n hx hb dX8_mayLift_0 rfl (lv_at hl 0 rfl) ?_
  refine lv_iconst (v := 0) hx hb dX8_mayLift_1 (by decide) ?_
  refine x_put (ty := tyX8 0) (ref := RX8) (C := RX8) (T := TX8) (N := 8) (ci := 8) (v := .int (0 : Int32)) hx hb hts iX8 tyX8 tyX8_ok nmX8 hown hK.1 hP hS (by omega) (by omega) hM.self rfl 0 (by decide) (hts (.fieldLink RX8 29 "PoreFieldModel" "thrown" "I") (by decide +kernel)) (fun _ h9 => h9) rfl (by decide +kernel) rfl rfl (Nat.le_of_ble_eq_true rfl) dX8_mayLift_2 (fun H locs hP hS => ?_)
  refine x_gen hP (fun v1 e1 hP => ?_)
  have hF : FM cy v1 (q + 1) 0 300 := by rw [e1]; exact hF.o (by omega)
  have hM : MM cy v1 q 0 5 0 0 0 := by rw [e1]; exact hM.up_self (th' := 0) (pr' := 5) (bk' := 0) (bo' := 0) (bw' := 0)
  have hB : LB cy v1 q := by rw [e1]; exact hB.o (by omega)
  have hfr : fr q 22 w v1 := by rw [e1]; exact hfr.up (by omega) (by omega)
  refine lv_iload_n hx hb dX8_mayLift_5 rfl (lv_at hl 1 rfl) ?_
  refine lv_iconst (v := 0) hx hb dX8_mayLift_6 (by decide) ?_
  refine lv_iconst (v := 2) hx hb dX8_mayLift_7 (by decide) ?_
  refine x_calli (va_runS (As := [.int x, .int (0 : Int32), .int (2 : Int32)]) (rest := []) ⟨hx, hb, hml, hown, hts⟩ (c_X8_in l D cy lo n v1 x (0 : Int32) (2 : Int32)) (va_cwS 3 hts gX8_mayLift_X8_in rfl rfl rfl (by decide +kernel) ⟨Nat.le_of_ble_eq_true rfl, Nat.le_of_ble_eq_true rfl⟩) (preS hP hK) rfl rfl hl.1 rfl (lv_room (Nat.le_of_ble_eq_true rfl)) dX8_mayLift_8 ⟨Nat.le_of_ble_eq_true rfl, Nat.le_of_ble_eq_true rfl⟩) hS (fun H locs hP hS => ?_)
  by_cases c_8 : (0 : Int32) ≤ x ∧ x ≤ (2 : Int32)
  · refine x_top (v' := (1 : Int32)) (if_pos c_8) ?_
    obtain ⟨xi, h_xi, e_xi⟩ := nI_of2 (n := 2) (by decide) (Int32.not_lt.mpr (Int32.le_trans (by decide) c_8.1)) c_8.2
    subst e_xi
    refine lv_if_ne (tgt := 20) hx hb dX8_mayLift_11 (by decide) (fun _ => ?_) (fun h => absurd h (by decide))
    refine lv_aload_n hx hb dX8_mayLift_20 rfl (lv_at hl 0 rfl) ?_
    refine lv_iload_n hx hb dX8_mayLift_21 rfl (lv_at hl 1 rfl) ?_
    refine x_calli (va_runV (As := [.int (nI xi)]) (rest := []) ⟨hx, hb, hml, hown, hts⟩ (c_X8_mayNow l D cy lo n v1 q (by omega) (by omega) 0 hM hB hF xi (by omega)) (cwV 1 hts gX8_mayLift_X8_mayNow rfl rfl rfl (by decide +kernel) ⟨Nat.le_of_ble_eq_true rfl, Nat.le_of_ble_eq_true rfl⟩) (preV hP hK (x_recv (ci := 8) (q := (RX8, TX8, 8)) hK.1 hP (by omega) (by omega) rfl hM.self)) rfl rfl hl.1 rfl (lv_room (Nat.le_of_ble_eq_true rfl)) dX8_mayLift_22 ⟨Nat.le_of_ble_eq_true rfl, Nat.le_of_ble_eq_true rfl⟩) hS (fun H locs hP hS => ?_)
    have eS : r_mayLift (nI xi) = (0, (0 : Int32)) := by unfold r_mayLift; rw [if_pos c_8] <;> first | rfl | decide
    exact W.iret (v := (0 : Int32)) hx hb hr (fun tE ht hW => ⟨⟨(0 : Int32), v1, rfl, by rw [eS]; exact ⟨⟨_, hM.self⟩, fun _ => rfl, hfr⟩, x_at ht hP⟩, hS.F ht⟩) hS.2.2 dX8_mayLift_25
  · refine x_top (v' := (0 : Int32)) (if_neg c_8) ?_
    refine lv_if_ne (tgt := 20) hx hb dX8_mayLift_11 (by decide) (fun h => absurd (by decide) h) (fun _ => ?_)
    refine lv_aload_n hx hb dX8_mayLift_14 rfl (lv_at hl 0 rfl) ?_
    refine lv_iconst (v := 1) hx hb dX8_mayLift_15 (by decide) ?_
    refine x_callx (va_runV (As := [.int (1 : Int32)]) (rest := []) ⟨hx, hb, hml, hown, hts⟩ (c_X8_no l D cy lo n v1 q (by omega) (by omega) 0 hM hB hF (1 : Int32)) (cwV 1 hts gX8_mayLift_X8_no rfl rfl rfl (by decide +kernel) ⟨Nat.le_of_ble_eq_true rfl, Nat.le_of_ble_eq_true rfl⟩) (preV hP hK (x_recv (ci := 8) (q := (RX8, TX8, 8)) hK.1 hP (by omega) (by omega) rfl hM.self)) rfl rfl hl.1 rfl (lv_room (Nat.le_of_ble_eq_true rfl)) dX8_mayLift_16 ⟨Nat.le_of_ble_eq_true rfl, Nat.le_of_ble_eq_true rfl⟩) hS (fun r9 u2 H locs hX hP hS => ?_)
    obtain ⟨rfl, hM, hB, hF, hf9⟩ := hX
    have hfr := hfr.tr hf9 (by omega) (by omega)
    have eS : r_mayLift x = (1, (0 : Int32)) := by unfold r_mayLift; rw [if_neg c_8] <;> first | rfl | decide
    exact W.iret (v := (0 : Int32)) hx hb hr (fun tE ht hW => ⟨⟨(0 : Int32), u2, rfl, by rw [eS]; exact ⟨⟨_, hM.self⟩, fun _ => rfl, hfr⟩, x_at ht hP⟩, hS.F ht⟩) hS.2.2 dX8_mayLift_19

def r_lift (x y : Int32) : Int32 × Int32 := if 0 ≤ x ∧ x ≤ 2 then (if 1 ≤ y ∧ y ≤ 999 then (0, 0) else (2, 0)) else (1, 0)
set_option maxRecDepth 100000 in
set_option maxHeartbeats 1000000 in
/-- lift -/
theorem c_X8_lift (l : Launch) (D : va_G) (cy : Nat → ClassId) (lo n : Nat) (w : Nat → va_E) (q : Nat) (h1 : lo ≤ q) (h2 : q + 22 ≤ lo + n) (th : Int32) (hM : MM cy w q th 5 0 0 0) (hB : LB cy w q) (hF : FM cy w (q + 1) 0 300) (x y : Int32) : Met l yX8_lift wsX8_lift ({ frames := 2, cells := 0, slots := 0, locals := 51 }) (PcW D cy lo n w [.ref q, .int x, .int y]) (QR D lo n q w (r_lift x y)) 0 0 (fun q : Nat => lo ≤ q) := by
  refine Met.ofW (cc := cX8_lift) (maxL := 4) (ret := (some .int)) (by decide) rfl ?_
  intro p e s m args below meth c s₁ B hml hv
  obtain ⟨rfl, hP, hK, hS⟩ := x_entry hv
  have hx := B.exec
  have hb := B.bytes
  have hr := B.returns
  have hts := atoms_spec (ws := wsX8_lift) B.pre
  have hown : s.vm.findClass RX8 = some m.cls := findClass_of_methodNamed B.named
  have hlocks := B.notSynchronized
  have iX7 : ∀ w ∈ u_ws RX7 TX7 14, w ∈ wsX8_lift := by decide +kernel
  have iX8 : ∀ w ∈ u_ws RX8 TX8 8, w ∈ wsX8_lift := by decide +kernel
  have hl := lv_entry ([.ref q, .int x, .int y]) (n := 4) (Nat.le_of_ble_eq_true rfl)
  rw [lg_entry_eq]
  generalize (lg_sl ([.ref q, .int x, .int y]) ++ List.replicate (4 - (lg_sl ([.ref q, .int x, .int y])).length) Slot.unset).toArray = ls at hl ⊢
  have hl : lv_has ls 4 [(0, .ref q), (1, .int x), (2, .int y)] := hl
  have hfr : fr q 22 w w := fr.rf
  refine lv_aload_n hx hb dX8_lift_0 rfl (lv_at hl 0 rfl) ?_
  refine lv_iconst (v := 0) hx hb dX8_lift_1 (by decide) ?_
  refine x_put (ty := tyX8 0) (ref := RX8) (C := RX8) (T := TX8) (N := 8) (ci := 8) (v := .int (0 : Int32)) hx hb hts iX8 tyX8 tyX8_ok nmX8 hown hK.1 hP hS (by omega) (by omega) hM.self rfl 0 (by decide) (hts (.fieldLink RX8 29 "PoreFieldModel" "thrown" "I") (by decide +kernel)) (fun _ h9 => h9) rfl (by decide +kernel) rfl rfl (Nat.le_of_ble_eq_true rfl) dX8_lift_2 (fun H locs hP hS => ?_)
  refine x_gen hP (fun v1 e1 hP => ?_)
  have hF : FM cy v1 (q + 1) 0 300 := by rw [e1]; exact hF.o (by omega)
  have hM : MM cy v1 q 0 5 0 0 0 := by rw [e1]; exact hM.up_self (th' := 0) (pr' := 5) (bk' := 0) (bo' := 0) (bw' := 0)
  have hB : LB cy v1 q := by rw [e1]; exact hB.o (by omega)
  have hfr : fr q 22 w v1 := by rw [e1]; exact hfr.up (by omega) (by omega)
  refine lv_iload_n hx hb dX8_lift_5 rfl (lv_at hl 1 rfl) ?_
  refine lv_iconst (v := 0) hx hb dX8_lift_6 (by decide) ?_
  refine lv_iconst (v := 2) hx hb dX8_lift_7 (by decide) ?_
  refine x_calli (va_runS (As := [.int x, .int (0 : Int32), .int (2 : Int32)]) (rest := []) ⟨hx, hb, hml, hown, hts⟩ (c_X8_in l D cy lo n v1 x (0 : Int32) (2 : Int32)) (va_cwS 3 hts gX8_lift_X8_in rfl rfl rfl (by decide +kernel) ⟨Nat.le_of_ble_eq_true rfl, Nat.le_of_ble_eq_true rfl⟩) (preS hP hK) rfl rfl hl.1 rfl (lv_room (Nat.le_of_ble_eq_true rfl)) dX8_lift_8 ⟨Nat.le_of_ble_eq_true rfl, Nat.le_of_ble_eq_true rfl⟩) hS (fun H locs hP hS => ?_)
  by_cases c_8 : (0 : Int32) ≤ x ∧ x ≤ (2 : Int32)
  · refine x_top (v' := (1 : Int32)) (if_pos c_8) ?_
    obtain ⟨xi, h_xi, e_xi⟩ := nI_of2 (n := 2) (by decide) (Int32.not_lt.mpr (Int32.le_trans (by decide) c_8.1)) c_8.2
    subst e_xi
    refine lv_if_ne (tgt := 20) hx hb dX8_lift_11 (by decide) (fun _ => ?_) (fun h => absurd h (by decide))
    refine lv_iload_n hx hb dX8_lift_20 rfl (lv_at hl 2 rfl) ?_
    refine lv_iconst (v := 1) hx hb dX8_lift_21 (by decide) ?_
    refine lv_sipush (v := 999) hx hb dX8_lift_22 (by decide) ?_
    refine x_calli (va_runS (As := [.int y, .int (1 : Int32), .int (999 : Int32)]) (rest := []) ⟨hx, hb, hml, hown, hts⟩ (c_X8_in l D cy lo n v1 y (1 : Int32) (999 : Int32)) (va_cwS 3 hts gX8_lift_X8_in rfl rfl rfl (by decide +kernel) ⟨Nat.le_of_ble_eq_true rfl, Nat.le_of_ble_eq_true rfl⟩) (preS hP hK) rfl rfl hl.1 rfl (lv_room (Nat.le_of_ble_eq_true rfl)) dX8_lift_25 ⟨Nat.le_of_ble_eq_true rfl, Nat.le_of_ble_eq_true rfl⟩) hS (fun H locs hP hS => ?_)
    by_cases c_25 : (1 : Int32) ≤ y ∧ y ≤ (999 : Int32)
    · refine x_top (v' := (1 : Int32)) (if_pos c_25) ?_
      refine lv_if_ne (tgt := 37) hx hb dX8_lift_28 (by decide) (fun _ => ?_) (fun h => absurd h (by decide))
      refine lv_iload_n hx hb dX8_lift_37 rfl (lv_at hl 2 rfl) ?_
      refine lv_aload_n hx hb dX8_lift_38 rfl (lv_at hl 0 rfl) ?_
      refine lv_iload_n hx hb dX8_lift_39 rfl (lv_at hl 1 rfl) ?_
      refine x_calli (va_runV (As := [.int (nI xi)]) (rest := [.int y]) ⟨hx, hb, hml, hown, hts⟩ (c_X8_mayNow l D cy lo n v1 q (by omega) (by omega) 0 hM hB hF xi (by omega)) (cwV 1 hts gX8_lift_X8_mayNow rfl rfl rfl (by decide +kernel) ⟨Nat.le_of_ble_eq_true rfl, Nat.le_of_ble_eq_true rfl⟩) (preV hP hK (x_recv (ci := 8) (q := (RX8, TX8, 8)) hK.1 hP (by omega) (by omega) rfl hM.self)) rfl rfl hl.1 rfl (lv_room (Nat.le_of_ble_eq_true rfl)) dX8_lift_40 ⟨Nat.le_of_ble_eq_true rfl, Nat.le_of_ble_eq_true rfl⟩) hS (fun H locs hP hS => ?_)
      refine va_mmin (own := RX8) hx hb (hml.trans hl.1.symm) hown (hts (.methodLink RX8 89 Lib.Math.min.name) (by decide +kernel)) (hts (.static Lib.Math.min.name) (by decide +kernel)) (hts (.initialized "java/lang/Math") (by decide +kernel)) (hts (.code Lib.Math.min.name Lib.Math.min.code 2 (some .int)) (by decide +kernel)) (Nat.le_of_ble_eq_true rfl) (Nat.le_of_ble_eq_true rfl) (Nat.zero_le _) (Nat.zero_le _) dX8_lift_43 ?_
      refine x_top (v' := (0 : Int32)) (if_pos (Int32.lt_of_lt_of_le (by decide) c_25.1)) ?_
      refine lv_istore_n (lv' := [(3, .int (0 : Int32)), (0, .ref q), (1, .int (nI xi)), (2, .int y)]) hx hb dX8_lift_46 rfl hl (by decide) rfl (fun ls hl => ?_)
      refine lv_aload_n hx hb dX8_lift_47 rfl (lv_at hl 1 rfl) ?_
      refine x_get (ref := RX8) (C := RX8) (T := TX8) (N := 8) (ci := 8) (v := .ref (q + 1)) hx hb hts iX8 hown hK.1 hP (by omega) (by omega) hM.self rfl 1 (by decide) (hts (.fieldLink RX8 10 "PoreFieldModel" "field" "LPoreFieldModel$Field;") (by decide +kernel)) (fun _ h9 => h9) rfl dX8_lift_48 ?_
      refine lv_dup hx hb dX8_lift_51 rfl ?_
      refine x_get (ref := RX7) (C := RX7) (T := TX7) (N := 14) (ci := 7) (v := .int (0 : Int32)) hx hb hts iX7 hown hK.1 hP (by omega) (by omega) hF.self rfl 13 (by decide) (hts (.fieldLink RX8 79 "PoreFieldModel$Field" "stored" "I") (by decide +kernel)) (fun _ h9 => h9) rfl dX8_lift_52 ?_
      refine lv_iload_n hx hb dX8_lift_55 rfl (lv_at hl 0 rfl) ?_
      refine lv_isub hx hb dX8_lift_56 ?_
      refine x_top (v' := 0) (by decide) ?_
      refine x_put (ty := tyX7 13) (ref := RX7) (C := RX7) (T := TX7) (N := 14) (ci := 7) (v := .int (0 : Int32)) hx hb hts iX7 tyX7 tyX7_ok nmX7 hown hK.1 hP hS (by omega) (by omega) hF.self rfl 13 (by decide) (hts (.fieldLink RX8 79 "PoreFieldModel$Field" "stored" "I") (by decide +kernel)) (fun _ h9 => h9) rfl (by decide +kernel) rfl rfl (Nat.le_of_ble_eq_true rfl) dX8_lift_57 (fun H locs hP hS => ?_)
      refine x_gen hP (fun v2 e2 hP => ?_)
      have hF : FM cy v2 (q + 1) 0 300 := by rw [e2]; exact hF.up_self (nw' := 0) (tk' := 300)
      have hM : MM cy v2 q 0 5 0 0 0 := by rw [e2]; exact hM.o (by omega) (by omega) (by omega)
      have hB : LB cy v2 q := by rw [e2]; exact hB.o (by omega)
      have hfr : fr q 22 w v2 := by rw [e2]; exact hfr.up (by omega) (by omega)
      refine lv_aload_n hx hb dX8_lift_60 rfl (lv_at hl 1 rfl) ?_
      refine x_get (ref := RX8) (C := RX8) (T := TX8) (N := 8) (ci := 8) (v := .ref (q + 17)) hx hb hts iX8 hown hK.1 hP (by omega) (by omega) hM.self rfl 2 (by decide) (hts (.fieldLink RX8 18 "PoreFieldModel" "partners" "[[I") (by decide +kernel)) (fun _ h9 => h9) rfl dX8_lift_61 ?_
      refine lv_iload_n hx hb dX8_lift_64 rfl (lv_at hl 2 rfl) ?_
      obtain ⟨y1, g1, o1⟩ := hM.outer
      refine x_aaldA (b := (q + 18 + xi)) hx hb hK.1 hP (by omega) (by omega) 6 g1 rfl (cl_of_nI (i := xi) rfl (by omega)) (o1 xi (by omega)) (vp_in_of_nI (i := xi) rfl (by omega) (by omega)) dX8_lift_65 ?_
      refine lv_iconst (v := 2) hx hb dX8_lift_66 (by decide) ?_
      refine lv_dup2_11 hx hb dX8_lift_67 rfl rfl ?_
      obtain ⟨d2, g2, j2, z2⟩ := hM.row xi (by omega)
      refine x_iald hx hb hK.1 hP (by omega) (by omega) 0 g2 rfl (cl_of_nI (i := 2) rfl (by omega)) (vp_in_of_nI (i := 2) rfl (by omega) (by omega)) dX8_lift_68 ?_
      refine x_top (v' := (0 : Int32)) (z2 2 (by omega) (by omega)) ?_
      refine lv_iload_n hx hb dX8_lift_69 rfl (lv_at hl 0 rfl) ?_
      refine lv_iadd hx hb dX8_lift_70 ?_
      refine x_top (v' := 0) (by decide) ?_
      obtain ⟨d3, g3, j3, z3⟩ := hM.row xi (by omega)
      refine x_iast hx hb hK.1 hP hS (by omega) (by omega) 0 g3 rfl (cl_of_nI (i := 2) rfl (by omega)) (vp_in_of_nI (i := 2) rfl (by omega) (by omega)) dX8_lift_71 (fun H locs hP hS => ?_)
      refine x_gen hP (fun v3 e3 hP => ?_)
      have hF : FM cy v3 (q + 1) 0 300 := by rw [e3]; exact hF.o (by omega)
      have hM : MM cy v3 q 0 5 0 0 0 := by rw [e3]; exact hM.up_row (by omega) (upd_k0 (by omega) j3) (upd_kz rfl z3)
      have hB : LB cy v3 q := by rw [e3]; exact hB.o (by omega)
      have hfr : fr q 22 w v3 := by rw [e3]; exact hfr.up (by omega) (by omega)
      refine lv_aload_n hx hb dX8_lift_72 rfl (lv_at hl 1 rfl) ?_
      refine x_get (ref := RX8) (C := RX8) (T := TX8) (N := 8) (ci := 8) (v := .ref (q + 17)) hx hb hts iX8 hown hK.1 hP (by omega) (by omega) hM.self rfl 2 (by decide) (hts (.fieldLink RX8 18 "PoreFieldModel" "partners" "[[I") (by decide +kernel)) (fun _ h9 => h9) rfl dX8_lift_73 ?_
      refine lv_iload_n hx hb dX8_lift_76 rfl (lv_at hl 2 rfl) ?_
      obtain ⟨y4, g4, o4⟩ := hM.outer
      refine x_aaldA (b := (q + 18 + xi)) hx hb hK.1 hP (by omega) (by omega) 6 g4 rfl (cl_of_nI (i := xi) rfl (by omega)) (o4 xi (by omega)) (vp_in_of_nI (i := xi) rfl (by omega) (by omega)) dX8_lift_77 ?_
      refine lv_iconst (v := 3) hx hb dX8_lift_78 (by decide) ?_
      refine lv_dup2_11 hx hb dX8_lift_79 rfl rfl ?_
      obtain ⟨d5, g5, j5, z5⟩ := hM.row xi (by omega)
      refine x_iald hx hb hK.1 hP (by omega) (by omega) 0 g5 rfl (cl_of_nI (i := 3) rfl (by omega)) (vp_in_of_nI (i := 3) rfl (by omega) (by omega)) dX8_lift_80 ?_
      refine x_top (v' := (0 : Int32)) (z5 3 (by omega) (by omega)) ?_
      refine lv_iload_n hx hb dX8_lift_81 rfl (lv_at hl 0 rfl) ?_
      refine lv_aload_n hx hb dX8_lift_82 rfl (lv_at hl 1 rfl) ?_
      refine x_get (ref := RX8) (C := RX8) (T := TX8) (N := 8) (ci := 8) (v := .int (5 : Int32)) hx hb hts iX8 hown hK.1 hP (by omega) (by omega) hM.self rfl 4 (by decide) (hts (.fieldLink RX8 25 "PoreFieldModel" "price" "I") (by decide +kernel)) (fun _ h9 => h9) rfl dX8_lift_83 ?_
      refine lv_imul hx hb dX8_lift_86 ?_
      refine x_top (v' := 0) (by decide) ?_
      refine lv_iadd hx hb dX8_lift_87 ?_
      refine x_top (v' := 0) (by decide) ?_
      obtain ⟨d6, g6, j6, z6⟩ := hM.row xi (by omega)
      refine x_iast hx hb hK.1 hP hS (by omega) (by omega) 0 g6 rfl (cl_of_nI (i := 3) rfl (by omega)) (vp_in_of_nI (i := 3) rfl (by omega) (by omega)) dX8_lift_88 (fun H locs hP hS => ?_)
      refine x_gen hP (fun v4 e4 hP => ?_)
      have hF : FM cy v4 (q + 1) 0 300 := by rw [e4]; exact hF.o (by omega)
      have hM : MM cy v4 q 0 5 0 0 0 := by rw [e4]; exact hM.up_row (by omega) (upd_k0 (by omega) j6) (upd_kz rfl z6)
      have hB : LB cy v4 q := by rw [e4]; exact hB.o (by omega)
      have hfr : fr q 22 w v4 := by rw [e4]; exact hfr.up (by omega) (by omega)
      refine lv_iload_n hx hb dX8_lift_89 rfl (lv_at hl 0 rfl) ?_
      have eS : r_lift (nI xi) y = (0, (0 : Int32)) := by unfold r_lift; rw [if_pos c_8, if_pos c_25] <;> first | rfl | decide
      exact W.iret (v := (0 : Int32)) hx hb hr (fun tE ht hW => ⟨⟨(0 : Int32), v4, rfl, by rw [eS]; exact ⟨⟨_, hM.self⟩, fun _ => rfl, hfr⟩, x_at ht hP⟩, hS.F ht⟩) hS.2.2 dX8_lift_90
    · refine x_top (v' := (0 : Int32)) (if_neg c_25) ?_
      refine lv_if_ne (tgt := 37) hx hb dX8_lift_28 (by decide) (fun h => absurd (by decide) h) (fun _ => ?_)
      refine lv_aload_n hx hb dX8_lift_31 rfl (lv_at hl 0 rfl) ?_
      refine lv_iconst (v := 2) hx hb dX8_lift_32 (by decide) ?_
      refine x_callx (va_runV (As := [.int (2 : Int32)]) (rest := []) ⟨hx, hb, hml, hown, hts⟩ (c_X8_no l D cy lo n v1 q (by omega) (by omega) 0 hM hB hF (2 : Int32)) (cwV 1 hts gX8_lift_X8_no rfl rfl rfl (by decide +kernel) ⟨Nat.le_of_ble_eq_true rfl, Nat.le_of_ble_eq_true rfl⟩) (preV hP hK (x_recv (ci := 8) (q := (RX8, TX8, 8)) hK.1 hP (by omega) (by omega) rfl hM.self)) rfl rfl hl.1 rfl (lv_room (Nat.le_of_ble_eq_true rfl)) dX8_lift_33 ⟨Nat.le_of_ble_eq_true rfl, Nat.le_of_ble_eq_true rfl⟩) hS (fun r9 u5 H locs hX hP hS => ?_)
      obtain ⟨rfl, hM, hB, hF, hf9⟩ := hX
      have hfr := hfr.tr hf9 (by omega) (by omega)
      have eS : r_lift (nI xi) y = (2, (0 : Int32)) := by unfold r_lift; rw [if_pos c_8, if_neg c_25] <;> first | rfl | decide
      exact W.iret (v := (0 : Int32)) hx hb hr (fun tE ht hW => ⟨⟨(0 : Int32), u5, rfl, by rw [eS]; exact ⟨⟨_, hM.self⟩, fun _ => rfl, hfr⟩, x_at ht hP⟩, hS.F ht⟩) hS.2.2 dX8_lift_36
  · refine x_top (v' := (0 : Int32)) (if_neg c_8) ?_
    refine lv_if_ne (tgt := 20) hx hb dX8_lift_11 (by decide) (fun h => absurd (by decide) h) (fun _ => ?_)
    refine lv_aload_n hx hb dX8_lift_14 rfl (lv_at hl 0 rfl) ?_
    refine lv_iconst (v := 1) hx hb dX8_lift_15 (by decide) ?_
    refine x_callx (va_runV (As := [.int (1 : Int32)]) (rest := []) ⟨hx, hb, hml, hown, hts⟩ (c_X8_no l D cy lo n v1 q (by omega) (by omega) 0 hM hB hF (1 : Int32)) (cwV 1 hts gX8_lift_X8_no rfl rfl rfl (by decide +kernel) ⟨Nat.le_of_ble_eq_true rfl, Nat.le_of_ble_eq_true rfl⟩) (preV hP hK (x_recv (ci := 8) (q := (RX8, TX8, 8)) hK.1 hP (by omega) (by omega) rfl hM.self)) rfl rfl hl.1 rfl (lv_room (Nat.le_of_ble_eq_true rfl)) dX8_lift_16 ⟨Nat.le_of_ble_eq_true rfl, Nat.le_of_ble_eq_true rfl⟩) hS (fun r9 u6 H locs hX hP hS => ?_)
    obtain ⟨rfl, hM, hB, hF, hf9⟩ := hX
    have hfr := hfr.tr hf9 (by omega) (by omega)
    have eS : r_lift x y = (1, (0 : Int32)) := by unfold r_lift; rw [if_neg c_8] <;> first | rfl | decide
    exact W.iret (v := (0 : Int32)) hx hb hr (fun tE ht hW => ⟨⟨(0 : Int32), u6, rfl, by rw [eS]; exact ⟨⟨_, hM.self⟩, fun _ => rfl, hfr⟩, x_at ht hP⟩, hS.F ht⟩) hS.2.2 dX8_lift_19

set_option maxRecDepth 100000 in
set_option maxHeartbeats 1000000 in
/-- cellNow, 0 -/
theorem c_X8_cellNow_0 (l : Launch) (D : va_G) (cy : Nat → ClassId) (lo n : Nat) (w : Nat → va_E) (q : Nat) (h1 : lo ≤ q) (h2 : q + 22 ≤ lo + n) (th : Int32) (hM : MM cy w q th 5 0 0 0) (hB : LB cy w q) (hF : FM cy w (q + 1) 0 300) (ci : Nat) (hci : ci < 16) : Met l yX8_cellNow wsX8_cellNow ({ frames := 0, cells := 0, slots := 0, locals := 0 }) (PcW D cy lo n w [.ref q, .int (nI ci), .int (nI 0)]) (QiW D lo n w 40) 0 0 (fun q : Nat => lo ≤ q) := by
  refine Met.ofW (cc := cX8_cellNow) (maxL := 3) (ret := (some .int)) (by decide) rfl ?_
  intro p e s m args below meth c s₁ B hml hv
  obtain ⟨rfl, hP, hK, hS⟩ := x_entry hv
  have hx := B.exec
  have hb := B.bytes
  have hr := B.returns
  have hts := atoms_spec (ws := wsX8_cellNow) B.pre
  have hown : s.vm.findClass RX8 = some m.cls := findClass_of_methodNamed B.named
  have hlocks := B.notSynchronized
  have iX7 : ∀ w ∈ u_ws RX7 TX7 14, w ∈ wsX8_cellNow := by decide +kernel
  have iX8 : ∀ w ∈ u_ws RX8 TX8 8, w ∈ wsX8_cellNow := by decide +kernel
  have hl := lv_entry ([.ref q, .int (nI ci), .int (nI 0)]) (n := 3) (Nat.le_of_ble_eq_true rfl)
  rw [lg_entry_eq]
  generalize (lg_sl ([.ref q, .int (nI ci), .int (nI 0)]) ++ List.replicate (3 - (lg_sl ([.ref q, .int (nI ci), .int (nI 0)])).length) Slot.unset).toArray = ls at hl ⊢
  have hl : lv_has ls 3 [(0, .ref q), (1, .int (nI ci)), (2, .int (nI 0))] := hl
  refine lv_iload_n hx hb dX8_cellNow_0 rfl (lv_at hl 2 rfl) ?_
  refine lv_if_ne (tgt := 16) hx hb dX8_cellNow_1 (by decide) (fun h => absurd (by decide) h) (fun _ => ?_)
  refine lv_aload_n hx hb dX8_cellNow_4 rfl (lv_at hl 0 rfl) ?_
  refine x_get (ref := RX8) (C := RX8) (T := TX8) (N := 8) (ci := 8) (v := .ref (q + 1)) hx hb hts iX8 hown hK.1 hP (by omega) (by omega) hM.self rfl 1 (by decide) (hts (.fieldLink RX8 10 "PoreFieldModel" "field" "LPoreFieldModel$Field;") (by decide +kernel)) (fun _ h9 => h9) rfl dX8_cellNow_5 ?_
  refine x_get (ref := RX7) (C := RX7) (T := TX7) (N := 14) (ci := 7) (v := .ref ((q + 1) + 1)) hx hb hts iX7 hown hK.1 hP (by omega) (by omega) hF.self rfl 0 (by decide) (hts (.fieldLink RX8 47 "PoreFieldModel$Field" "room" "[I") (by decide +kernel)) (fun _ h9 => h9) rfl dX8_cellNow_8 ?_
  refine lv_iload_n hx hb dX8_cellNow_11 rfl (lv_at hl 1 rfl) ?_
  obtain ⟨d1, g1, q1⟩ := hF.room
  refine x_iald hx hb hK.1 hP (by omega) (by omega) 0 g1 rfl (cl_of_nI (i := ci) rfl (by omega)) (vp_in_of_nI (i := ci) rfl (by omega) (by omega)) dX8_cellNow_12 ?_
  refine x_top (v' := (40 : Int32)) (q1 _ (by omega)) ?_
  refine lv_goto (tgt := 47) hx hb dX8_cellNow_13 (by decide) ?_
  exact W.iret (v := (40 : Int32)) hx hb hr (fun tE ht hW => ⟨⟨(40 : Int32), (), rfl, rfl, x_at ht hP⟩, hS.F ht⟩) hS.2.2 dX8_cellNow_47

set_option maxRecDepth 100000 in
set_option maxHeartbeats 1000000 in
/-- cellNow, 1 -/
theorem c_X8_cellNow_1 (l : Launch) (D : va_G) (cy : Nat → ClassId) (lo n : Nat) (w : Nat → va_E) (q : Nat) (h1 : lo ≤ q) (h2 : q + 22 ≤ lo + n) (th : Int32) (hM : MM cy w q th 5 0 0 0) (hB : LB cy w q) (hF : FM cy w (q + 1) 0 300) (ci : Nat) (hci : ci < 16) : Met l yX8_cellNow wsX8_cellNow ({ frames := 0, cells := 0, slots := 0, locals := 0 }) (PcW D cy lo n w [.ref q, .int (nI ci), .int (nI 1)]) (QiW D lo n w 0) 0 0 (fun q : Nat => lo ≤ q) := by
  refine Met.ofW (cc := cX8_cellNow) (maxL := 3) (ret := (some .int)) (by decide) rfl ?_
  intro p e s m args below meth c s₁ B hml hv
  obtain ⟨rfl, hP, hK, hS⟩ := x_entry hv
  have hx := B.exec
  have hb := B.bytes
  have hr := B.returns
  have hts := atoms_spec (ws := wsX8_cellNow) B.pre
  have hown : s.vm.findClass RX8 = some m.cls := findClass_of_methodNamed B.named
  have hlocks := B.notSynchronized
  have iX7 : ∀ w ∈ u_ws RX7 TX7 14, w ∈ wsX8_cellNow := by decide +kernel
  have iX8 : ∀ w ∈ u_ws RX8 TX8 8, w ∈ wsX8_cellNow := by decide +kernel
  have hl := lv_entry ([.ref q, .int (nI ci), .int (nI 1)]) (n := 3) (Nat.le_of_ble_eq_true rfl)
  rw [lg_entry_eq]
  generalize (lg_sl ([.ref q, .int (nI ci), .int (nI 1)]) ++ List.replicate (3 - (lg_sl ([.ref q, .int (nI ci), .int (nI 1)])).length) Slot.unset).toArray = ls at hl ⊢
  have hl : lv_has ls 3 [(0, .ref q), (1, .int (nI ci)), (2, .int (nI 1))] := hl
  refine lv_iload_n hx hb dX8_cellNow_0 rfl (lv_at hl 2 rfl) ?_
  refine lv_if_ne (tgt := 16) hx hb dX8_cellNow_1 (by decide) (fun _ => ?_) (fun h => absurd h (by decide))
  refine lv_iload_n hx hb dX8_cellNow_16 rfl (lv_at hl 2 rfl) ?_
  refine lv_iconst (v := 4) hx hb dX8_cellNow_17 (by decide) ?_
  refine lv_icmp_ne (tgt := 32) hx hb dX8_cellNow_18 (by decide) (fun _ => ?_) (fun h => absurd h (by decide))
  refine lv_aload_n hx hb dX8_cellNow_32 rfl (lv_at hl 0 rfl) ?_
  refine x_get (ref := RX8) (C := RX8) (T := TX8) (N := 8) (ci := 8) (v := .ref (q + 1)) hx hb hts iX8 hown hK.1 hP (by omega) (by omega) hM.self rfl 1 (by decide) (hts (.fieldLink RX8 10 "PoreFieldModel" "field" "LPoreFieldModel$Field;") (by decide +kernel)) (fun _ h9 => h9) rfl dX8_cellNow_33 ?_
  refine x_get (ref := RX7) (C := RX7) (T := TX7) (N := 14) (ci := 7) (v := .ref ((q + 1) + 2)) hx hb hts iX7 hown hK.1 hP (by omega) (by omega) hF.self rfl 1 (by decide) (hts (.fieldLink RX8 50 "PoreFieldModel$Field" "has" "[I") (by decide +kernel)) (fun _ h9 => h9) rfl dX8_cellNow_36 ?_
  refine lv_iconst (v := 3) hx hb dX8_cellNow_39 (by decide) ?_
  refine lv_iload_n hx hb dX8_cellNow_40 rfl (lv_at hl 1 rfl) ?_
  refine lv_imul hx hb dX8_cellNow_41 ?_
  refine x_top (v' := (nI (3 * ci))) (nI_m3 _) ?_
  refine lv_iload_n hx hb dX8_cellNow_42 rfl (lv_at hl 2 rfl) ?_
  refine lv_iadd hx hb dX8_cellNow_43 ?_
  refine x_top (v' := (nI (3 * ci + 1))) (nI_add _ _) ?_
  refine lv_iconst (v := 1) hx hb dX8_cellNow_44 (by decide) ?_
  refine lv_isub hx hb dX8_cellNow_45 ?_
  refine x_top (v' := (nI (3 * ci + 0))) (nI_sb (b := 1) (by omega)) ?_
  obtain ⟨d1, g1, q1⟩ := hF.has
  refine x_iald hx hb hK.1 hP (by omega) (by omega) 0 g1 rfl (cl_of_nI (i := 3 * ci + 0) rfl (by omega)) (vp_in_of_nI (i := 3 * ci + 0) rfl (by omega) (by omega)) dX8_cellNow_46 ?_
  refine x_top (v' := (0 : Int32)) (q1 _ (by omega)) ?_
  exact W.iret (v := (0 : Int32)) hx hb hr (fun tE ht hW => ⟨⟨(0 : Int32), (), rfl, rfl, x_at ht hP⟩, hS.F ht⟩) hS.2.2 dX8_cellNow_47

set_option maxRecDepth 100000 in
set_option maxHeartbeats 1000000 in
/-- cellNow, 2 -/
theorem c_X8_cellNow_2 (l : Launch) (D : va_G) (cy : Nat → ClassId) (lo n : Nat) (w : Nat → va_E) (q : Nat) (h1 : lo ≤ q) (h2 : q + 22 ≤ lo + n) (th : Int32) (hM : MM cy w q th 5 0 0 0) (hB : LB cy w q) (hF : FM cy w (q + 1) 0 300) (ci : Nat) (hci : ci < 16) : Met l yX8_cellNow wsX8_cellNow ({ frames := 0, cells := 0, slots := 0, locals := 0 }) (PcW D cy lo n w [.ref q, .int (nI ci), .int (nI 2)]) (QiW D lo n w 0) 0 0 (fun q : Nat => lo ≤ q) := by
  refine Met.ofW (cc := cX8_cellNow) (maxL := 3) (ret := (some .int)) (by decide) rfl ?_
  intro p e s m args below meth c s₁ B hml hv
  obtain ⟨rfl, hP, hK, hS⟩ := x_entry hv
  have hx := B.exec
  have hb := B.bytes
  have hr := B.returns
  have hts := atoms_spec (ws := wsX8_cellNow) B.pre
  have hown : s.vm.findClass RX8 = some m.cls := findClass_of_methodNamed B.named
  have hlocks := B.notSynchronized
  have iX7 : ∀ w ∈ u_ws RX7 TX7 14, w ∈ wsX8_cellNow := by decide +kernel
  have iX8 : ∀ w ∈ u_ws RX8 TX8 8, w ∈ wsX8_cellNow := by decide +kernel
  have hl := lv_entry ([.ref q, .int (nI ci), .int (nI 2)]) (n := 3) (Nat.le_of_ble_eq_true rfl)
  rw [lg_entry_eq]
  generalize (lg_sl ([.ref q, .int (nI ci), .int (nI 2)]) ++ List.replicate (3 - (lg_sl ([.ref q, .int (nI ci), .int (nI 2)])).length) Slot.unset).toArray = ls at hl ⊢
  have hl : lv_has ls 3 [(0, .ref q), (1, .int (nI ci)), (2, .int (nI 2))] := hl
  refine lv_iload_n hx hb dX8_cellNow_0 rfl (lv_at hl 2 rfl) ?_
  refine lv_if_ne (tgt := 16) hx hb dX8_cellNow_1 (by decide) (fun _ => ?_) (fun h => absurd h (by decide))
  refine lv_iload_n hx hb dX8_cellNow_16 rfl (lv_at hl 2 rfl) ?_
  refine lv_iconst (v := 4) hx hb dX8_cellNow_17 (by decide) ?_
  refine lv_icmp_ne (tgt := 32) hx hb dX8_cellNow_18 (by decide) (fun _ => ?_) (fun h => absurd h (by decide))
  refine lv_aload_n hx hb dX8_cellNow_32 rfl (lv_at hl 0 rfl) ?_
  refine x_get (ref := RX8) (C := RX8) (T := TX8) (N := 8) (ci := 8) (v := .ref (q + 1)) hx hb hts iX8 hown hK.1 hP (by omega) (by omega) hM.self rfl 1 (by decide) (hts (.fieldLink RX8 10 "PoreFieldModel" "field" "LPoreFieldModel$Field;") (by decide +kernel)) (fun _ h9 => h9) rfl dX8_cellNow_33 ?_
  refine x_get (ref := RX7) (C := RX7) (T := TX7) (N := 14) (ci := 7) (v := .ref ((q + 1) + 2)) hx hb hts iX7 hown hK.1 hP (by omega) (by omega) hF.self rfl 1 (by decide) (hts (.fieldLink RX8 50 "PoreFieldModel$Field" "has" "[I") (by decide +kernel)) (fun _ h9 => h9) rfl dX8_cellNow_36 ?_
  refine lv_iconst (v := 3) hx hb dX8_cellNow_39 (by decide) ?_
  refine lv_iload_n hx hb dX8_cellNow_40 rfl (lv_at hl 1 rfl) ?_
  refine lv_imul hx hb dX8_cellNow_41 ?_
  refine x_top (v' := (nI (3 * ci))) (nI_m3 _) ?_
  refine lv_iload_n hx hb dX8_cellNow_42 rfl (lv_at hl 2 rfl) ?_
  refine lv_iadd hx hb dX8_cellNow_43 ?_
  refine x_top (v' := (nI (3 * ci + 2))) (nI_add _ _) ?_
  refine lv_iconst (v := 1) hx hb dX8_cellNow_44 (by decide) ?_
  refine lv_isub hx hb dX8_cellNow_45 ?_
  refine x_top (v' := (nI (3 * ci + 1))) (nI_sb (b := 1) (by omega)) ?_
  obtain ⟨d1, g1, q1⟩ := hF.has
  refine x_iald hx hb hK.1 hP (by omega) (by omega) 0 g1 rfl (cl_of_nI (i := 3 * ci + 1) rfl (by omega)) (vp_in_of_nI (i := 3 * ci + 1) rfl (by omega) (by omega)) dX8_cellNow_46 ?_
  refine x_top (v' := (0 : Int32)) (q1 _ (by omega)) ?_
  exact W.iret (v := (0 : Int32)) hx hb hr (fun tE ht hW => ⟨⟨(0 : Int32), (), rfl, rfl, x_at ht hP⟩, hS.F ht⟩) hS.2.2 dX8_cellNow_47

set_option maxRecDepth 100000 in
set_option maxHeartbeats 1000000 in
/-- cellNow, 3 -/
theorem c_X8_cellNow_3 (l : Launch) (D : va_G) (cy : Nat → ClassId) (lo n : Nat) (w : Nat → va_E) (q : Nat) (h1 : lo ≤ q) (h2 : q + 22 ≤ lo + n) (th : Int32) (hM : MM cy w q th 5 0 0 0) (hB : LB cy w q) (hF : FM cy w (q + 1) 0 300) (ci : Nat) (hci : ci < 16) : Met l yX8_cellNow wsX8_cellNow ({ frames := 0, cells := 0, slots := 0, locals := 0 }) (PcW D cy lo n w [.ref q, .int (nI ci), .int (nI 3)]) (QiW D lo n w 0) 0 0 (fun q : Nat => lo ≤ q) := by
  refine Met.ofW (cc := cX8_cellNow) (maxL := 3) (ret := (some .int)) (by decide) rfl ?_
  intro p e s m args below meth c s₁ B hml hv
  obtain ⟨rfl, hP, hK, hS⟩ := x_entry hv
  have hx := B.exec
  have hb := B.bytes
  have hr := B.returns
  have hts := atoms_spec (ws := wsX8_cellNow) B.pre
  have hown : s.vm.findClass RX8 = some m.cls := findClass_of_methodNamed B.named
  have hlocks := B.notSynchronized
  have iX7 : ∀ w ∈ u_ws RX7 TX7 14, w ∈ wsX8_cellNow := by decide +kernel
  have iX8 : ∀ w ∈ u_ws RX8 TX8 8, w ∈ wsX8_cellNow := by decide +kernel
  have hl := lv_entry ([.ref q, .int (nI ci), .int (nI 3)]) (n := 3) (Nat.le_of_ble_eq_true rfl)
  rw [lg_entry_eq]
  generalize (lg_sl ([.ref q, .int (nI ci), .int (nI 3)]) ++ List.replicate (3 - (lg_sl ([.ref q, .int (nI ci), .int (nI 3)])).length) Slot.unset).toArray = ls at hl ⊢
  have hl : lv_has ls 3 [(0, .ref q), (1, .int (nI ci)), (2, .int (nI 3))] := hl
  refine lv_iload_n hx hb dX8_cellNow_0 rfl (lv_at hl 2 rfl) ?_
  refine lv_if_ne (tgt := 16) hx hb dX8_cellNow_1 (by decide) (fun _ => ?_) (fun h => absurd h (by decide))
  refine lv_iload_n hx hb dX8_cellNow_16 rfl (lv_at hl 2 rfl) ?_
  refine lv_iconst (v := 4) hx hb dX8_cellNow_17 (by decide) ?_
  refine lv_icmp_ne (tgt := 32) hx hb dX8_cellNow_18 (by decide) (fun _ => ?_) (fun h => absurd h (by decide))
  refine lv_aload_n hx hb dX8_cellNow_32 rfl (lv_at hl 0 rfl) ?_
  refine x_get (ref := RX8) (C := RX8) (T := TX8) (N := 8) (ci := 8) (v := .ref (q + 1)) hx hb hts iX8 hown hK.1 hP (by omega) (by omega) hM.self rfl 1 (by decide) (hts (.fieldLink RX8 10 "PoreFieldModel" "field" "LPoreFieldModel$Field;") (by decide +kernel)) (fun _ h9 => h9) rfl dX8_cellNow_33 ?_
  refine x_get (ref := RX7) (C := RX7) (T := TX7) (N := 14) (ci := 7) (v := .ref ((q + 1) + 2)) hx hb hts iX7 hown hK.1 hP (by omega) (by omega) hF.self rfl 1 (by decide) (hts (.fieldLink RX8 50 "PoreFieldModel$Field" "has" "[I") (by decide +kernel)) (fun _ h9 => h9) rfl dX8_cellNow_36 ?_
  refine lv_iconst (v := 3) hx hb dX8_cellNow_39 (by decide) ?_
  refine lv_iload_n hx hb dX8_cellNow_40 rfl (lv_at hl 1 rfl) ?_
  refine lv_imul hx hb dX8_cellNow_41 ?_
  refine x_top (v' := (nI (3 * ci))) (nI_m3 _) ?_
  refine lv_iload_n hx hb dX8_cellNow_42 rfl (lv_at hl 2 rfl) ?_
  refine lv_iadd hx hb dX8_cellNow_43 ?_
  refine x_top (v' := (nI (3 * ci + 3))) (nI_add _ _) ?_
  refine lv_iconst (v := 1) hx hb dX8_cellNow_44 (by decide) ?_
  refine lv_isub hx hb dX8_cellNow_45 ?_
  refine x_top (v' := (nI (3 * ci + 2))) (nI_sb (b := 1) (by omega)) ?_
  obtain ⟨d1, g1, q1⟩ := hF.has
  refine x_iald hx hb hK.1 hP (by omega) (by omega) 0 g1 rfl (cl_of_nI (i := 3 * ci + 2) rfl (by omega)) (vp_in_of_nI (i := 3 * ci + 2) rfl (by omega) (by omega)) dX8_cellNow_46 ?_
  refine x_top (v' := (0 : Int32)) (q1 _ (by omega)) ?_
  exact W.iret (v := (0 : Int32)) hx hb hr (fun tE ht hW => ⟨⟨(0 : Int32), (), rfl, rfl, x_at ht hP⟩, hS.F ht⟩) hS.2.2 dX8_cellNow_47

set_option maxRecDepth 100000 in
set_option maxHeartbeats 1000000 in
/-- cellNow, 4 -/
theorem c_X8_cellNow_4 (l : Launch) (D : va_G) (cy : Nat → ClassId) (lo n : Nat) (w : Nat → va_E) (q : Nat) (h1 : lo ≤ q) (h2 : q + 22 ≤ lo + n) (th : Int32) (hM : MM cy w q th 5 0 0 0) (hB : LB cy w q) (hF : FM cy w (q + 1) 0 300) (ci : Nat) (hci : ci < 16) : Met l yX8_cellNow wsX8_cellNow ({ frames := 2, cells := 0, slots := 0, locals := 42 }) (PcW D cy lo n w [.ref q, .int (nI ci), .int (nI 4)]) (QiW D lo n w 0) 0 0 (fun q : Nat => lo ≤ q) := by
  refine Met.ofW (cc := cX8_cellNow) (maxL := 3) (ret := (some .int)) (by decide) rfl ?_
  intro p e s m args below meth c s₁ B hml hv
  obtain ⟨rfl, hP, hK, hS⟩ := x_entry hv
  have hx := B.exec
  have hb := B.bytes
  have hr := B.returns
  have hts := atoms_spec (ws := wsX8_cellNow) B.pre
  have hown : s.vm.findClass RX8 = some m.cls := findClass_of_methodNamed B.named
  have hlocks := B.notSynchronized
  have iX8 : ∀ w ∈ u_ws RX8 TX8 8, w ∈ wsX8_cellNow := by decide +kernel
  have hl := lv_entry ([.ref q, .int (nI ci), .int (nI 4)]) (n := 3) (Nat.le_of_ble_eq_true rfl)
  rw [lg_entry_eq]
  generalize (lg_sl ([.ref q, .int (nI ci), .int (nI 4)]) ++ List.replicate (3 - (lg_sl ([.ref q, .int (nI ci), .int (nI 4)])).length) Slot.unset).toArray = ls at hl ⊢
  have hl : lv_has ls 3 [(0, .ref q), (1, .int (nI ci)), (2, .int (nI 4))] := hl
  refine lv_iload_n hx hb dX8_cellNow_0 rfl (lv_at hl 2 rfl) ?_
  refine lv_if_ne (tgt := 16) hx hb dX8_cellNow_1 (by decide) (fun _ => ?_) (fun h => absurd h (by decide))
  refine lv_iload_n hx hb dX8_cellNow_16 rfl (lv_at hl 2 rfl) ?_
  refine lv_iconst (v := 4) hx hb dX8_cellNow_17 (by decide) ?_
  refine lv_icmp_ne (tgt := 32) hx hb dX8_cellNow_18 (by decide) (fun h => absurd (by decide) h) (fun _ => ?_)
  refine lv_aload_n hx hb dX8_cellNow_21 rfl (lv_at hl 0 rfl) ?_
  refine x_get (ref := RX8) (C := RX8) (T := TX8) (N := 8) (ci := 8) (v := .ref (q + 1)) hx hb hts iX8 hown hK.1 hP (by omega) (by omega) hM.self rfl 1 (by decide) (hts (.fieldLink RX8 10 "PoreFieldModel" "field" "LPoreFieldModel$Field;") (by decide +kernel)) (fun _ h9 => h9) rfl dX8_cellNow_22 ?_
  refine lv_iload_n hx hb dX8_cellNow_25 rfl (lv_at hl 1 rfl) ?_
  obtain ⟨d1, g1, q1⟩ := hF.has
  obtain ⟨r1, m1, t1⟩ := hF.room
  refine x_calli (va_runV (As := [.int (nI ci)]) (rest := []) ⟨hx, hb, hml, hown, hts⟩ (c_X7_pressure l D cy lo n w (q + 1) (by omega) (by omega) 0 0 10 300 0 hF.self d1 g1 r1 m1 ci (by omega) (by rw [t1 _ (by omega)]; decide)) (cwV 1 hts gX8_cellNow_X7_pressure rfl rfl rfl (by decide +kernel) ⟨Nat.le_of_ble_eq_true rfl, Nat.le_of_ble_eq_true rfl⟩) (preV hP hK (x_recv (ci := 7) (q := (RX7, TX7, 14)) hK.1 hP (by omega) (by omega) rfl hF.self)) rfl rfl hl.1 rfl (lv_room (Nat.le_of_ble_eq_true rfl)) dX8_cellNow_26 ⟨Nat.le_of_ble_eq_true rfl, Nat.le_of_ble_eq_true rfl⟩) hS (fun H locs hP hS => ?_)
  refine x_top (v' := (0 : Int32)) (by rw [q1 _ (by omega), q1 _ (by omega), q1 _ (by omega), t1 _ (by omega)]; decide) ?_
  refine lv_goto (tgt := 47) hx hb dX8_cellNow_29 (by decide) ?_
  exact W.iret (v := (0 : Int32)) hx hb hr (fun tE ht hW => ⟨⟨(0 : Int32), (), rfl, rfl, x_at ht hP⟩, hS.F ht⟩) hS.2.2 dX8_cellNow_47

def r_ofCell (x y : Int32) : Int32 × Int32 := if 0 ≤ x ∧ x ≤ 15 then (if 0 ≤ y ∧ y ≤ 4 then (0, if y = 0 then 40 else 0) else (2, 0)) else (1, 0)
set_option maxRecDepth 100000 in
set_option maxHeartbeats 1000000 in
/-- ofCell -/
theorem c_X8_ofCell (l : Launch) (D : va_G) (cy : Nat → ClassId) (lo n : Nat) (w : Nat → va_E) (q : Nat) (h1 : lo ≤ q) (h2 : q + 22 ≤ lo + n) (th : Int32) (hM : MM cy w q th 5 0 0 0) (hB : LB cy w q) (hF : FM cy w (q + 1) 0 300) (x y : Int32) : Met l yX8_ofCell wsX8_ofCell ({ frames := 3, cells := 0, slots := 0, locals := 64 }) (PcW D cy lo n w [.ref q, .int x, .int y]) (QR D lo n q w (r_ofCell x y)) 0 0 (fun q : Nat => lo ≤ q) := by
  refine Met.ofW (cc := cX8_ofCell) (maxL := 3) (ret := (some .int)) (by decide) rfl ?_
  intro p e s m args below meth c s₁ B hml hv
  obtain ⟨rfl, hP, hK, hS⟩ := x_entry hv
  have hx := B.exec
  have hb := B.bytes
  have hr := B.returns
  have hts := atoms_spec (ws := wsX8_ofCell) B.pre
  have hown : s.vm.findClass RX8 = some m.cls := findClass_of_methodNamed B.named
  have hlocks := B.notSynchronized
  have iX8 : ∀ w ∈ u_ws RX8 TX8 8, w ∈ wsX8_ofCell := by decide +kernel
  have hl := lv_entry ([.ref q, .int x, .int y]) (n := 3) (Nat.le_of_ble_eq_true rfl)
  rw [lg_entry_eq]
  generalize (lg_sl ([.ref q, .int x, .int y]) ++ List.replicate (3 - (lg_sl ([.ref q, .int x, .int y])).length) Slot.unset).toArray = ls at hl ⊢
  have hl : lv_has ls 3 [(0, .ref q), (1, .int x), (2, .int y)] := hl
  have hfr : fr q 22 w w := fr.rf
  refine lv_aload_n hx hb dX8_ofCell_0 rfl (lv_at hl 0 rfl) ?_
  refine lv_iconst (v := 0) hx hb dX8_ofCell_1 (by decide) ?_
  refine x_put (ty := tyX8 0) (ref := RX8) (C := RX8) (T := TX8) (N := 8) (ci := 8) (v := .int (0 : Int32)) hx hb hts iX8 tyX8 tyX8_ok nmX8 hown hK.1 hP hS (by omega) (by omega) hM.self rfl 0 (by decide) (hts (.fieldLink RX8 29 "PoreFieldModel" "thrown" "I") (by decide +kernel)) (fun _ h9 => h9) rfl (by decide +kernel) rfl rfl (Nat.le_of_ble_eq_true rfl) dX8_ofCell_2 (fun H locs hP hS => ?_)
  refine x_gen hP (fun v1 e1 hP => ?_)
  have hF : FM cy v1 (q + 1) 0 300 := by rw [e1]; exact hF.o (by omega)
  have hM : MM cy v1 q 0 5 0 0 0 := by rw [e1]; exact hM.up_self (th' := 0) (pr' := 5) (bk' := 0) (bo' := 0) (bw' := 0)
  have hB : LB cy v1 q := by rw [e1]; exact hB.o (by omega)
  have hfr : fr q 22 w v1 := by rw [e1]; exact hfr.up (by omega) (by omega)
  refine lv_iload_n hx hb dX8_ofCell_5 rfl (lv_at hl 1 rfl) ?_
  refine x_calli (va_runS (As := [.int x]) (rest := []) ⟨hx, hb, hml, hown, hts⟩ (c_X8_isCell l D cy lo n v1 x) (va_cwS 1 hts gX8_ofCell_X8_isCell rfl rfl rfl (by decide +kernel) ⟨Nat.le_of_ble_eq_true rfl, Nat.le_of_ble_eq_true rfl⟩) (preS hP hK) rfl rfl hl.1 rfl (lv_room (Nat.le_of_ble_eq_true rfl)) dX8_ofCell_6 ⟨Nat.le_of_ble_eq_true rfl, Nat.le_of_ble_eq_true rfl⟩) hS (fun H locs hP hS => ?_)
  by_cases c_6 : 0 ≤ x ∧ x ≤ 15
  · refine x_top (v' := (1 : Int32)) (if_pos c_6) ?_
    obtain ⟨xi, h_xi, e_xi⟩ := nI_of2 (n := 15) (by decide) (Int32.not_lt.mpr (Int32.le_trans (by decide) c_6.1)) c_6.2
    subst e_xi
    refine lv_if_ne (tgt := 18) hx hb dX8_ofCell_9 (by decide) (fun _ => ?_) (fun h => absurd h (by decide))
    refine lv_iload_n hx hb dX8_ofCell_18 rfl (lv_at hl 2 rfl) ?_
    refine lv_iconst (v := 0) hx hb dX8_ofCell_19 (by decide) ?_
    refine lv_iconst (v := 4) hx hb dX8_ofCell_20 (by decide) ?_
    refine x_calli (va_runS (As := [.int y, .int (0 : Int32), .int (4 : Int32)]) (rest := []) ⟨hx, hb, hml, hown, hts⟩ (c_X8_in l D cy lo n v1 y (0 : Int32) (4 : Int32)) (va_cwS 3 hts gX8_ofCell_X8_in rfl rfl rfl (by decide +kernel) ⟨Nat.le_of_ble_eq_true rfl, Nat.le_of_ble_eq_true rfl⟩) (preS hP hK) rfl rfl hl.1 rfl (lv_room (Nat.le_of_ble_eq_true rfl)) dX8_ofCell_21 ⟨Nat.le_of_ble_eq_true rfl, Nat.le_of_ble_eq_true rfl⟩) hS (fun H locs hP hS => ?_)
    by_cases c_21 : (0 : Int32) ≤ y ∧ y ≤ (4 : Int32)
    · refine x_top (v' := (1 : Int32)) (if_pos c_21) ?_
      obtain ⟨yi, h_yi, e_yi⟩ := nI_of2 (n := 4) (by decide) (Int32.not_lt.mpr (Int32.le_trans (by decide) c_21.1)) c_21.2
      subst e_yi
      refine lv_if_ne (tgt := 33) hx hb dX8_ofCell_24 (by decide) (fun _ => ?_) (fun h => absurd h (by decide))
      rcases (by omega : yi = 0 ∨ yi = 1 ∨ yi = 2 ∨ yi = 3 ∨ yi = 4) with rfl | rfl | rfl | rfl | rfl
      · refine lv_aload_n hx hb dX8_ofCell_33 rfl (lv_at hl 0 rfl) ?_
        refine lv_iload_n hx hb dX8_ofCell_34 rfl (lv_at hl 1 rfl) ?_
        refine lv_iload_n hx hb dX8_ofCell_35 rfl (lv_at hl 2 rfl) ?_
        refine x_calli (va_runV (As := [.int (nI xi), .int (nI 0)]) (rest := []) ⟨hx, hb, hml, hown, hts⟩ (c_X8_cellNow_0 l D cy lo n v1 q (by omega) (by omega) 0 hM hB hF xi (by omega)) (cwV 2 hts gX8_ofCell_X8_cellNow rfl rfl rfl (by decide +kernel) ⟨Nat.le_of_ble_eq_true rfl, Nat.le_of_ble_eq_true rfl⟩) (preV hP hK (x_recv (ci := 8) (q := (RX8, TX8, 8)) hK.1 hP (by omega) (by omega) rfl hM.self)) rfl rfl hl.1 rfl (lv_room (Nat.le_of_ble_eq_true rfl)) dX8_ofCell_36 ⟨Nat.le_of_ble_eq_true rfl, Nat.le_of_ble_eq_true rfl⟩) hS (fun H locs hP hS => ?_)
        have eS : r_ofCell (nI xi) (nI 0) = (0, (40 : Int32)) := by unfold r_ofCell; rw [if_pos c_6, if_pos c_21] <;> first | rfl | decide
        exact W.iret (v := (40 : Int32)) hx hb hr (fun tE ht hW => ⟨⟨(40 : Int32), v1, rfl, by rw [eS]; exact ⟨⟨_, hM.self⟩, fun _ => rfl, hfr⟩, x_at ht hP⟩, hS.F ht⟩) hS.2.2 dX8_ofCell_39
      · refine lv_aload_n hx hb dX8_ofCell_33 rfl (lv_at hl 0 rfl) ?_
        refine lv_iload_n hx hb dX8_ofCell_34 rfl (lv_at hl 1 rfl) ?_
        refine lv_iload_n hx hb dX8_ofCell_35 rfl (lv_at hl 2 rfl) ?_
        refine x_calli (va_runV (As := [.int (nI xi), .int (nI 1)]) (rest := []) ⟨hx, hb, hml, hown, hts⟩ (c_X8_cellNow_1 l D cy lo n v1 q (by omega) (by omega) 0 hM hB hF xi (by omega)) (cwV 2 hts gX8_ofCell_X8_cellNow rfl rfl rfl (by decide +kernel) ⟨Nat.le_of_ble_eq_true rfl, Nat.le_of_ble_eq_true rfl⟩) (preV hP hK (x_recv (ci := 8) (q := (RX8, TX8, 8)) hK.1 hP (by omega) (by omega) rfl hM.self)) rfl rfl hl.1 rfl (lv_room (Nat.le_of_ble_eq_true rfl)) dX8_ofCell_36 ⟨Nat.le_of_ble_eq_true rfl, Nat.le_of_ble_eq_true rfl⟩) hS (fun H locs hP hS => ?_)
        have eS : r_ofCell (nI xi) (nI 1) = (0, (0 : Int32)) := by unfold r_ofCell; rw [if_pos c_6, if_pos c_21] <;> first | rfl | decide
        exact W.iret (v := (0 : Int32)) hx hb hr (fun tE ht hW => ⟨⟨(0 : Int32), v1, rfl, by rw [eS]; exact ⟨⟨_, hM.self⟩, fun _ => rfl, hfr⟩, x_at ht hP⟩, hS.F ht⟩) hS.2.2 dX8_ofCell_39
      · refine lv_aload_n hx hb dX8_ofCell_33 rfl (lv_at hl 0 rfl) ?_
        refine lv_iload_n hx hb dX8_ofCell_34 rfl (lv_at hl 1 rfl) ?_
        refine lv_iload_n hx hb dX8_ofCell_35 rfl (lv_at hl 2 rfl) ?_
        refine x_calli (va_runV (As := [.int (nI xi), .int (nI 2)]) (rest := []) ⟨hx, hb, hml, hown, hts⟩ (c_X8_cellNow_2 l D cy lo n v1 q (by omega) (by omega) 0 hM hB hF xi (by omega)) (cwV 2 hts gX8_ofCell_X8_cellNow rfl rfl rfl (by decide +kernel) ⟨Nat.le_of_ble_eq_true rfl, Nat.le_of_ble_eq_true rfl⟩) (preV hP hK (x_recv (ci := 8) (q := (RX8, TX8, 8)) hK.1 hP (by omega) (by omega) rfl hM.self)) rfl rfl hl.1 rfl (lv_room (Nat.le_of_ble_eq_true rfl)) dX8_ofCell_36 ⟨Nat.le_of_ble_eq_true rfl, Nat.le_of_ble_eq_true rfl⟩) hS (fun H locs hP hS => ?_)
        have eS : r_ofCell (nI xi) (nI 2) = (0, (0 : Int32)) := by unfold r_ofCell; rw [if_pos c_6, if_pos c_21] <;> first | rfl | decide
        exact W.iret (v := (0 : Int32)) hx hb hr (fun tE ht hW => ⟨⟨(0 : Int32), v1, rfl, by rw [eS]; exact ⟨⟨_, hM.self⟩, fun _ => rfl, hfr⟩, x_at ht hP⟩, hS.F ht⟩) hS.2.2 dX8_ofCell_39
      · refine lv_aload_n hx hb dX8_ofCell_33 rfl (lv_at hl 0 rfl) ?_
        refine lv_iload_n hx hb dX8_ofCell_34 rfl (lv_at hl 1 rfl) ?_
        refine lv_iload_n hx hb dX8_ofCell_35 rfl (lv_at hl 2 rfl) ?_
        refine x_calli (va_runV (As := [.int (nI xi), .int (nI 3)]) (rest := []) ⟨hx, hb, hml, hown, hts⟩ (c_X8_cellNow_3 l D cy lo n v1 q (by omega) (by omega) 0 hM hB hF xi (by omega)) (cwV 2 hts gX8_ofCell_X8_cellNow rfl rfl rfl (by decide +kernel) ⟨Nat.le_of_ble_eq_true rfl, Nat.le_of_ble_eq_true rfl⟩) (preV hP hK (x_recv (ci := 8) (q := (RX8, TX8, 8)) hK.1 hP (by omega) (by omega) rfl hM.self)) rfl rfl hl.1 rfl (lv_room (Nat.le_of_ble_eq_true rfl)) dX8_ofCell_36 ⟨Nat.le_of_ble_eq_true rfl, Nat.le_of_ble_eq_true rfl⟩) hS (fun H locs hP hS => ?_)
        have eS : r_ofCell (nI xi) (nI 3) = (0, (0 : Int32)) := by unfold r_ofCell; rw [if_pos c_6, if_pos c_21] <;> first | rfl | decide
        exact W.iret (v := (0 : Int32)) hx hb hr (fun tE ht hW => ⟨⟨(0 : Int32), v1, rfl, by rw [eS]; exact ⟨⟨_, hM.self⟩, fun _ => rfl, hfr⟩, x_at ht hP⟩, hS.F ht⟩) hS.2.2 dX8_ofCell_39
      · refine lv_aload_n hx hb dX8_ofCell_33 rfl (lv_at hl 0 rfl) ?_
        refine lv_iload_n hx hb dX8_ofCell_34 rfl (lv_at hl 1 rfl) ?_
        refine lv_iload_n hx hb dX8_ofCell_35 rfl (lv_at hl 2 rfl) ?_
        refine x_calli (va_runV (As := [.int (nI xi), .int (nI 4)]) (rest := []) ⟨hx, hb, hml, hown, hts⟩ (c_X8_cellNow_4 l D cy lo n v1 q (by omega) (by omega) 0 hM hB hF xi (by omega)) (cwV 2 hts gX8_ofCell_X8_cellNow rfl rfl rfl (by decide +kernel) ⟨Nat.le_of_ble_eq_true rfl, Nat.le_of_ble_eq_true rfl⟩) (preV hP hK (x_recv (ci := 8) (q := (RX8, TX8, 8)) hK.1 hP (by omega) (by omega) rfl hM.self)) rfl rfl hl.1 rfl (lv_room (Nat.le_of_ble_eq_true rfl)) dX8_ofCell_36 ⟨Nat.le_of_ble_eq_true rfl, Nat.le_of_ble_eq_true rfl⟩) hS (fun H locs hP hS => ?_)
        have eS : r_ofCell (nI xi) (nI 4) = (0, (0 : Int32)) := by unfold r_ofCell; rw [if_pos c_6, if_pos c_21] <;> first | rfl | decide
        exact W.iret (v := (0 : Int32)) hx hb hr (fun tE ht hW => ⟨⟨(0 : Int32), v1, rfl, by rw [eS]; exact ⟨⟨_, hM.self⟩, fun _ => rfl, hfr⟩, x_at ht hP⟩, hS.F ht⟩) hS.2.2 dX8_ofCell_39
    · refine x_top (v' := (0 : Int32)) (if_neg c_21) ?_
      refine lv_if_ne (tgt := 33) hx hb dX8_ofCell_24 (by decide) (fun h => absurd (by decide) h) (fun _ => ?_)
      refine lv_aload_n hx hb dX8_ofCell_27 rfl (lv_at hl 0 rfl) ?_
      refine lv_iconst (v := 2) hx hb dX8_ofCell_28 (by decide) ?_
      refine x_callx (va_runV (As := [.int (2 : Int32)]) (rest := []) ⟨hx, hb, hml, hown, hts⟩ (c_X8_no l D cy lo n v1 q (by omega) (by omega) 0 hM hB hF (2 : Int32)) (cwV 1 hts gX8_ofCell_X8_no rfl rfl rfl (by decide +kernel) ⟨Nat.le_of_ble_eq_true rfl, Nat.le_of_ble_eq_true rfl⟩) (preV hP hK (x_recv (ci := 8) (q := (RX8, TX8, 8)) hK.1 hP (by omega) (by omega) rfl hM.self)) rfl rfl hl.1 rfl (lv_room (Nat.le_of_ble_eq_true rfl)) dX8_ofCell_29 ⟨Nat.le_of_ble_eq_true rfl, Nat.le_of_ble_eq_true rfl⟩) hS (fun r9 u2 H locs hX hP hS => ?_)
      obtain ⟨rfl, hM, hB, hF, hf9⟩ := hX
      have hfr := hfr.tr hf9 (by omega) (by omega)
      have eS : r_ofCell (nI xi) y = (2, (0 : Int32)) := by unfold r_ofCell; rw [if_pos c_6, if_neg c_21] <;> first | rfl | decide
      exact W.iret (v := (0 : Int32)) hx hb hr (fun tE ht hW => ⟨⟨(0 : Int32), u2, rfl, by rw [eS]; exact ⟨⟨_, hM.self⟩, fun _ => rfl, hfr⟩, x_at ht hP⟩, hS.F ht⟩) hS.2.2 dX8_ofCell_32
  · refine x_top (v' := (0 : Int32)) (if_neg c_6) ?_
    refine lv_if_ne (tgt := 18) hx hb dX8_ofCell_9 (by decide) (fun h => absurd (by decide) h) (fun _ => ?_)
    refine lv_aload_n hx hb dX8_ofCell_12 rfl (lv_at hl 0 rfl) ?_
    refine lv_iconst (v := 1) hx hb dX8_ofCell_13 (by decide) ?_
    refine x_callx (va_runV (As := [.int (1 : Int32)]) (rest := []) ⟨hx, hb, hml, hown, hts⟩ (c_X8_no l D cy lo n v1 q (by omega) (by omega) 0 hM hB hF (1 : Int32)) (cwV 1 hts gX8_ofCell_X8_no rfl rfl rfl (by decide +kernel) ⟨Nat.le_of_ble_eq_true rfl, Nat.le_of_ble_eq_true rfl⟩) (preV hP hK (x_recv (ci := 8) (q := (RX8, TX8, 8)) hK.1 hP (by omega) (by omega) rfl hM.self)) rfl rfl hl.1 rfl (lv_room (Nat.le_of_ble_eq_true rfl)) dX8_ofCell_14 ⟨Nat.le_of_ble_eq_true rfl, Nat.le_of_ble_eq_true rfl⟩) hS (fun r9 u3 H locs hX hP hS => ?_)
    obtain ⟨rfl, hM, hB, hF, hf9⟩ := hX
    have hfr := hfr.tr hf9 (by omega) (by omega)
    have eS : r_ofCell x y = (1, (0 : Int32)) := by unfold r_ofCell; rw [if_neg c_6] <;> first | rfl | decide
    exact W.iret (v := (0 : Int32)) hx hb hr (fun tE ht hW => ⟨⟨(0 : Int32), u3, rfl, by rw [eS]; exact ⟨⟨_, hM.self⟩, fun _ => rfl, hfr⟩, x_at ht hP⟩, hS.F ht⟩) hS.2.2 dX8_ofCell_17

def r_ofPartner (x y : Int32) : Int32 × Int32 := if 0 ≤ x ∧ x ≤ 2 then (if 0 ≤ y ∧ y ≤ 3 then (0, if x = 0 ∧ y = 0 then 100 else 0) else (2, 0)) else (1, 0)
set_option maxRecDepth 100000 in
set_option maxHeartbeats 1000000 in
/-- ofPartner -/
theorem c_X8_ofPartner (l : Launch) (D : va_G) (cy : Nat → ClassId) (lo n : Nat) (w : Nat → va_E) (q : Nat) (h1 : lo ≤ q) (h2 : q + 22 ≤ lo + n) (th : Int32) (hM : MM cy w q th 5 0 0 0) (hB : LB cy w q) (hF : FM cy w (q + 1) 0 300) (x y : Int32) : Met l yX8_ofPartner wsX8_ofPartner ({ frames := 1, cells := 0, slots := 0, locals := 22 }) (PcW D cy lo n w [.ref q, .int x, .int y]) (QR D lo n q w (r_ofPartner x y)) 0 0 (fun q : Nat => lo ≤ q) := by
  refine Met.ofW (cc := cX8_ofPartner) (maxL := 3) (ret := (some .int)) (by decide) rfl ?_
  intro p e s m args below meth c s₁ B hml hv
  obtain ⟨rfl, hP, hK, hS⟩ := x_entry hv
  have hx := B.exec
  have hb := B.bytes
  have hr := B.returns
  have hts := atoms_spec (ws := wsX8_ofPartner) B.pre
  have hown : s.vm.findClass RX8 = some m.cls := findClass_of_methodNamed B.named
  have hlocks := B.notSynchronized
  have iX8 : ∀ w ∈ u_ws RX8 TX8 8, w ∈ wsX8_ofPartner := by decide +kernel
  have hl := lv_entry ([.ref q, .int x, .int y]) (n := 3) (Nat.le_of_ble_eq_true rfl)
  rw [lg_entry_eq]
  generalize (lg_sl ([.ref q, .int x, .int y]) ++ List.replicate (3 - (lg_sl ([.ref q, .int x, .int y])).length) Slot.unset).toArray = ls at hl ⊢
  have hl : lv_has ls 3 [(0, .ref q), (1, .int x), (2, .int y)] := hl
  have hfr : fr q 22 w w := fr.rf
  refine lv_aload_n hx hb dX8_ofPartner_0 rfl (lv_at hl 0 rfl) ?_
  refine lv_iconst (v := 0) hx hb dX8_ofPartner_1 (by decide) ?_
  refine x_put (ty := tyX8 0) (ref := RX8) (C := RX8) (T := TX8) (N := 8) (ci := 8) (v := .int (0 : Int32)) hx hb hts iX8 tyX8 tyX8_ok nmX8 hown hK.1 hP hS (by omega) (by omega) hM.self rfl 0 (by decide) (hts (.fieldLink RX8 29 "PoreFieldModel" "thrown" "I") (by decide +kernel)) (fun _ h9 => h9) rfl (by decide +kernel) rfl rfl (Nat.le_of_ble_eq_true rfl) dX8_ofPartner_2 (fun H locs hP hS => ?_)
  refine x_gen hP (fun v1 e1 hP => ?_)
  have hF : FM cy v1 (q + 1) 0 300 := by rw [e1]; exact hF.o (by omega)
  have hM : MM cy v1 q 0 5 0 0 0 := by rw [e1]; exact hM.up_self (th' := 0) (pr' := 5) (bk' := 0) (bo' := 0) (bw' := 0)
  have hB : LB cy v1 q := by rw [e1]; exact hB.o (by omega)
  have hfr : fr q 22 w v1 := by rw [e1]; exact hfr.up (by omega) (by omega)
  refine lv_iload_n hx hb dX8_ofPartner_5 rfl (lv_at hl 1 rfl) ?_
  refine lv_iconst (v := 0) hx hb dX8_ofPartner_6 (by decide) ?_
  refine lv_iconst (v := 2) hx hb dX8_ofPartner_7 (by decide) ?_
  refine x_calli (va_runS (As := [.int x, .int (0 : Int32), .int (2 : Int32)]) (rest := []) ⟨hx, hb, hml, hown, hts⟩ (c_X8_in l D cy lo n v1 x (0 : Int32) (2 : Int32)) (va_cwS 3 hts gX8_ofPartner_X8_in rfl rfl rfl (by decide +kernel) ⟨Nat.le_of_ble_eq_true rfl, Nat.le_of_ble_eq_true rfl⟩) (preS hP hK) rfl rfl hl.1 rfl (lv_room (Nat.le_of_ble_eq_true rfl)) dX8_ofPartner_8 ⟨Nat.le_of_ble_eq_true rfl, Nat.le_of_ble_eq_true rfl⟩) hS (fun H locs hP hS => ?_)
  by_cases c_8 : (0 : Int32) ≤ x ∧ x ≤ (2 : Int32)
  · refine x_top (v' := (1 : Int32)) (if_pos c_8) ?_
    obtain ⟨xi, h_xi, e_xi⟩ := nI_of2 (n := 2) (by decide) (Int32.not_lt.mpr (Int32.le_trans (by decide) c_8.1)) c_8.2
    subst e_xi
    refine lv_if_ne (tgt := 20) hx hb dX8_ofPartner_11 (by decide) (fun _ => ?_) (fun h => absurd h (by decide))
    refine lv_iload_n hx hb dX8_ofPartner_20 rfl (lv_at hl 2 rfl) ?_
    refine lv_iconst (v := 0) hx hb dX8_ofPartner_21 (by decide) ?_
    refine lv_iconst (v := 3) hx hb dX8_ofPartner_22 (by decide) ?_
    refine x_calli (va_runS (As := [.int y, .int (0 : Int32), .int (3 : Int32)]) (rest := []) ⟨hx, hb, hml, hown, hts⟩ (c_X8_in l D cy lo n v1 y (0 : Int32) (3 : Int32)) (va_cwS 3 hts gX8_ofPartner_X8_in rfl rfl rfl (by decide +kernel) ⟨Nat.le_of_ble_eq_true rfl, Nat.le_of_ble_eq_true rfl⟩) (preS hP hK) rfl rfl hl.1 rfl (lv_room (Nat.le_of_ble_eq_true rfl)) dX8_ofPartner_23 ⟨Nat.le_of_ble_eq_true rfl, Nat.le_of_ble_eq_true rfl⟩) hS (fun H locs hP hS => ?_)
    by_cases c_23 : (0 : Int32) ≤ y ∧ y ≤ (3 : Int32)
    · refine x_top (v' := (1 : Int32)) (if_pos c_23) ?_
      obtain ⟨yi, h_yi, e_yi⟩ := nI_of2 (n := 3) (by decide) (Int32.not_lt.mpr (Int32.le_trans (by decide) c_23.1)) c_23.2
      subst e_yi
      refine lv_if_ne (tgt := 35) hx hb dX8_ofPartner_26 (by decide) (fun _ => ?_) (fun h => absurd h (by decide))
      rcases (by omega : xi = 0 ∨ xi = 1 ∨ xi = 2) with rfl | rfl | rfl
      · rcases (by omega : yi = 0 ∨ yi = 1 ∨ yi = 2 ∨ yi = 3) with rfl | rfl | rfl | rfl
        · refine lv_aload_n hx hb dX8_ofPartner_35 rfl (lv_at hl 0 rfl) ?_
          refine x_get (ref := RX8) (C := RX8) (T := TX8) (N := 8) (ci := 8) (v := .ref (q + 17)) hx hb hts iX8 hown hK.1 hP (by omega) (by omega) hM.self rfl 2 (by decide) (hts (.fieldLink RX8 18 "PoreFieldModel" "partners" "[[I") (by decide +kernel)) (fun _ h9 => h9) rfl dX8_ofPartner_36 ?_
          refine lv_iload_n hx hb dX8_ofPartner_39 rfl (lv_at hl 1 rfl) ?_
          obtain ⟨y1, g1, o1⟩ := hM.outer
          refine x_aaldA (b := (q + 18 + 0)) hx hb hK.1 hP (by omega) (by omega) 6 g1 rfl (cl_of_nI (i := 0) rfl (by omega)) (o1 0 (by omega)) (vp_in_of_nI (i := 0) rfl (by omega) (by omega)) dX8_ofPartner_40 ?_
          refine lv_iload_n hx hb dX8_ofPartner_41 rfl (lv_at hl 2 rfl) ?_
          obtain ⟨d2, g2, j2, z2⟩ := hM.row 0 (by omega)
          refine x_iald hx hb hK.1 hP (by omega) (by omega) 0 g2 rfl (cl_of_nI (i := 0) rfl (by omega)) (vp_in_of_nI (i := 0) rfl (by omega) (by omega)) dX8_ofPartner_42 ?_
          refine x_top (v' := (100 : Int32)) j2 ?_
          have eS : r_ofPartner (nI 0) (nI 0) = (0, (100 : Int32)) := by unfold r_ofPartner; rw [if_pos c_8, if_pos c_23] <;> first | rfl | decide
          exact W.iret (v := (100 : Int32)) hx hb hr (fun tE ht hW => ⟨⟨(100 : Int32), v1, rfl, by rw [eS]; exact ⟨⟨_, hM.self⟩, fun _ => rfl, hfr⟩, x_at ht hP⟩, hS.F ht⟩) hS.2.2 dX8_ofPartner_43
        · refine lv_aload_n hx hb dX8_ofPartner_35 rfl (lv_at hl 0 rfl) ?_
          refine x_get (ref := RX8) (C := RX8) (T := TX8) (N := 8) (ci := 8) (v := .ref (q + 17)) hx hb hts iX8 hown hK.1 hP (by omega) (by omega) hM.self rfl 2 (by decide) (hts (.fieldLink RX8 18 "PoreFieldModel" "partners" "[[I") (by decide +kernel)) (fun _ h9 => h9) rfl dX8_ofPartner_36 ?_
          refine lv_iload_n hx hb dX8_ofPartner_39 rfl (lv_at hl 1 rfl) ?_
          obtain ⟨y3, g3, o3⟩ := hM.outer
          refine x_aaldA (b := (q + 18 + 0)) hx hb hK.1 hP (by omega) (by omega) 6 g3 rfl (cl_of_nI (i := 0) rfl (by omega)) (o3 0 (by omega)) (vp_in_of_nI (i := 0) rfl (by omega) (by omega)) dX8_ofPartner_40 ?_
          refine lv_iload_n hx hb dX8_ofPartner_41 rfl (lv_at hl 2 rfl) ?_
          obtain ⟨d4, g4, j4, z4⟩ := hM.row 0 (by omega)
          refine x_iald hx hb hK.1 hP (by omega) (by omega) 0 g4 rfl (cl_of_nI (i := 1) rfl (by omega)) (vp_in_of_nI (i := 1) rfl (by omega) (by omega)) dX8_ofPartner_42 ?_
          refine x_top (v' := (0 : Int32)) (z4 1 (by omega) (by omega)) ?_
          have eS : r_ofPartner (nI 0) (nI 1) = (0, (0 : Int32)) := by unfold r_ofPartner; rw [if_pos c_8, if_pos c_23] <;> first | rfl | decide
          exact W.iret (v := (0 : Int32)) hx hb hr (fun tE ht hW => ⟨⟨(0 : Int32), v1, rfl, by rw [eS]; exact ⟨⟨_, hM.self⟩, fun _ => rfl, hfr⟩, x_at ht hP⟩, hS.F ht⟩) hS.2.2 dX8_ofPartner_43
        · refine lv_aload_n hx hb dX8_ofPartner_35 rfl (lv_at hl 0 rfl) ?_
          refine x_get (ref := RX8) (C := RX8) (T := TX8) (N := 8) (ci := 8) (v := .ref (q + 17)) hx hb hts iX8 hown hK.1 hP (by omega) (by omega) hM.self rfl 2 (by decide) (hts (.fieldLink RX8 18 "PoreFieldModel" "partners" "[[I") (by decide +kernel)) (fun _ h9 => h9) rfl dX8_ofPartner_36 ?_
          refine lv_iload_n hx hb dX8_ofPartner_39 rfl (lv_at hl 1 rfl) ?_
          obtain ⟨y5, g5, o5⟩ := hM.outer
          refine x_aaldA (b := (q + 18 + 0)) hx hb hK.1 hP (by omega) (by omega) 6 g5 rfl (cl_of_nI (i := 0) rfl (by omega)) (o5 0 (by omega)) (vp_in_of_nI (i := 0) rfl (by omega) (by omega)) dX8_ofPartner_40 ?_
          refine lv_iload_n hx hb dX8_ofPartner_41 rfl (lv_at hl 2 rfl) ?_
          obtain ⟨d6, g6, j6, z6⟩ := hM.row 0 (by omega)
          refine x_iald hx hb hK.1 hP (by omega) (by omega) 0 g6 rfl (cl_of_nI (i := 2) rfl (by omega)) (vp_in_of_nI (i := 2) rfl (by omega) (by omega)) dX8_ofPartner_42 ?_
          refine x_top (v' := (0 : Int32)) (z6 2 (by omega) (by omega)) ?_
          have eS : r_ofPartner (nI 0) (nI 2) = (0, (0 : Int32)) := by unfold r_ofPartner; rw [if_pos c_8, if_pos c_23] <;> first | rfl | decide
          exact W.iret (v := (0 : Int32)) hx hb hr (fun tE ht hW => ⟨⟨(0 : Int32), v1, rfl, by rw [eS]; exact ⟨⟨_, hM.self⟩, fun _ => rfl, hfr⟩, x_at ht hP⟩, hS.F ht⟩) hS.2.2 dX8_ofPartner_43
        · refine lv_aload_n hx hb dX8_ofPartner_35 rfl (lv_at hl 0 rfl) ?_
          refine x_get (ref := RX8) (C := RX8) (T := TX8) (N := 8) (ci := 8) (v := .ref (q + 17)) hx hb hts iX8 hown hK.1 hP (by omega) (by omega) hM.self rfl 2 (by decide) (hts (.fieldLink RX8 18 "PoreFieldModel" "partners" "[[I") (by decide +kernel)) (fun _ h9 => h9) rfl dX8_ofPartner_36 ?_
          refine lv_iload_n hx hb dX8_ofPartner_39 rfl (lv_at hl 1 rfl) ?_
          obtain ⟨y7, g7, o7⟩ := hM.outer
          refine x_aaldA (b := (q + 18 + 0)) hx hb hK.1 hP (by omega) (by omega) 6 g7 rfl (cl_of_nI (i := 0) rfl (by omega)) (o7 0 (by omega)) (vp_in_of_nI (i := 0) rfl (by omega) (by omega)) dX8_ofPartner_40 ?_
          refine lv_iload_n hx hb dX8_ofPartner_41 rfl (lv_at hl 2 rfl) ?_
          obtain ⟨d8, g8, j8, z8⟩ := hM.row 0 (by omega)
          refine x_iald hx hb hK.1 hP (by omega) (by omega) 0 g8 rfl (cl_of_nI (i := 3) rfl (by omega)) (vp_in_of_nI (i := 3) rfl (by omega) (by omega)) dX8_ofPartner_42 ?_
          refine x_top (v' := (0 : Int32)) (z8 3 (by omega) (by omega)) ?_
          have eS : r_ofPartner (nI 0) (nI 3) = (0, (0 : Int32)) := by unfold r_ofPartner; rw [if_pos c_8, if_pos c_23] <;> first | rfl | decide
          exact W.iret (v := (0 : Int32)) hx hb hr (fun tE ht hW => ⟨⟨(0 : Int32), v1, rfl, by rw [eS]; exact ⟨⟨_, hM.self⟩, fun _ => rfl, hfr⟩, x_at ht hP⟩, hS.F ht⟩) hS.2.2 dX8_ofPartner_43
      · rcases (by omega : yi = 0 ∨ yi = 1 ∨ yi = 2 ∨ yi = 3) with rfl | rfl | rfl | rfl
        · refine lv_aload_n hx hb dX8_ofPartner_35 rfl (lv_at hl 0 rfl) ?_
          refine x_get (ref := RX8) (C := RX8) (T := TX8) (N := 8) (ci := 8) (v := .ref (q + 17)) hx hb hts iX8 hown hK.1 hP (by omega) (by omega) hM.self rfl 2 (by decide) (hts (.fieldLink RX8 18 "PoreFieldModel" "partners" "[[I") (by decide +kernel)) (fun _ h9 => h9) rfl dX8_ofPartner_36 ?_
          refine lv_iload_n hx hb dX8_ofPartner_39 rfl (lv_at hl 1 rfl) ?_
          obtain ⟨y9, g9, o9⟩ := hM.outer
          refine x_aaldA (b := (q + 18 + 1)) hx hb hK.1 hP (by omega) (by omega) 6 g9 rfl (cl_of_nI (i := 1) rfl (by omega)) (o9 1 (by omega)) (vp_in_of_nI (i := 1) rfl (by omega) (by omega)) dX8_ofPartner_40 ?_
          refine lv_iload_n hx hb dX8_ofPartner_41 rfl (lv_at hl 2 rfl) ?_
          obtain ⟨d10, g10, j10, z10⟩ := hM.row 1 (by omega)
          refine x_iald hx hb hK.1 hP (by omega) (by omega) 0 g10 rfl (cl_of_nI (i := 0) rfl (by omega)) (vp_in_of_nI (i := 0) rfl (by omega) (by omega)) dX8_ofPartner_42 ?_
          refine x_top (v' := (0 : Int32)) j10 ?_
          have eS : r_ofPartner (nI 1) (nI 0) = (0, (0 : Int32)) := by unfold r_ofPartner; rw [if_pos c_8, if_pos c_23] <;> first | rfl | decide
          exact W.iret (v := (0 : Int32)) hx hb hr (fun tE ht hW => ⟨⟨(0 : Int32), v1, rfl, by rw [eS]; exact ⟨⟨_, hM.self⟩, fun _ => rfl, hfr⟩, x_at ht hP⟩, hS.F ht⟩) hS.2.2 dX8_ofPartner_43
        · refine lv_aload_n hx hb dX8_ofPartner_35 rfl (lv_at hl 0 rfl) ?_
          refine x_get (ref := RX8) (C := RX8) (T := TX8) (N := 8) (ci := 8) (v := .ref (q + 17)) hx hb hts iX8 hown hK.1 hP (by omega) (by omega) hM.self rfl 2 (by decide) (hts (.fieldLink RX8 18 "PoreFieldModel" "partners" "[[I") (by decide +kernel)) (fun _ h9 => h9) rfl dX8_ofPartner_36 ?_
          refine lv_iload_n hx hb dX8_ofPartner_39 rfl (lv_at hl 1 rfl) ?_
          obtain ⟨y11, g11, o11⟩ := hM.outer
          refine x_aaldA (b := (q + 18 + 1)) hx hb hK.1 hP (by omega) (by omega) 6 g11 rfl (cl_of_nI (i := 1) rfl (by omega)) (o11 1 (by omega)) (vp_in_of_nI (i := 1) rfl (by omega) (by omega)) dX8_ofPartner_40 ?_
          refine lv_iload_n hx hb dX8_ofPartner_41 rfl (lv_at hl 2 rfl) ?_
          obtain ⟨d12, g12, j12, z12⟩ := hM.row 1 (by omega)
          refine x_iald hx hb hK.1 hP (by omega) (by omega) 0 g12 rfl (cl_of_nI (i := 1) rfl (by omega)) (vp_in_of_nI (i := 1) rfl (by omega) (by omega)) dX8_ofPartner_42 ?_
          refine x_top (v' := (0 : Int32)) (z12 1 (by omega) (by omega)) ?_
          have eS : r_ofPartner (nI 1) (nI 1) = (0, (0 : Int32)) := by unfold r_ofPartner; rw [if_pos c_8, if_pos c_23] <;> first | rfl | decide
          exact W.iret (v := (0 : Int32)) hx hb hr (fun tE ht hW => ⟨⟨(0 : Int32), v1, rfl, by rw [eS]; exact ⟨⟨_, hM.self⟩, fun _ => rfl, hfr⟩, x_at ht hP⟩, hS.F ht⟩) hS.2.2 dX8_ofPartner_43
        · refine lv_aload_n hx hb dX8_ofPartner_35 rfl (lv_at hl 0 rfl) ?_
          refine x_get (ref := RX8) (C := RX8) (T := TX8) (N := 8) (ci := 8) (v := .ref (q + 17)) hx hb hts iX8 hown hK.1 hP (by omega) (by omega) hM.self rfl 2 (by decide) (hts (.fieldLink RX8 18 "PoreFieldModel" "partners" "[[I") (by decide +kernel)) (fun _ h9 => h9) rfl dX8_ofPartner_36 ?_
          refine lv_iload_n hx hb dX8_ofPartner_39 rfl (lv_at hl 1 rfl) ?_
          obtain ⟨y13, g13, o13⟩ := hM.outer
          refine x_aaldA (b := (q + 18 + 1)) hx hb hK.1 hP (by omega) (by omega) 6 g13 rfl (cl_of_nI (i := 1) rfl (by omega)) (o13 1 (by omega)) (vp_in_of_nI (i := 1) rfl (by omega) (by omega)) dX8_ofPartner_40 ?_
          refine lv_iload_n hx hb dX8_ofPartner_41 rfl (lv_at hl 2 rfl) ?_
          obtain ⟨d14, g14, j14, z14⟩ := hM.row 1 (by omega)
          refine x_iald hx hb hK.1 hP (by omega) (by omega) 0 g14 rfl (cl_of_nI (i := 2) rfl (by omega)) (vp_in_of_nI (i := 2) rfl (by omega) (by omega)) dX8_ofPartner_42 ?_
          refine x_top (v' := (0 : Int32)) (z14 2 (by omega) (by omega)) ?_
          have eS : r_ofPartner (nI 1) (nI 2) = (0, (0 : Int32)) := by unfold r_ofPartner; rw [if_pos c_8, if_pos c_23] <;> first | rfl | decide
          exact W.iret (v := (0 : Int32)) hx hb hr (fun tE ht hW => ⟨⟨(0 : Int32), v1, rfl, by rw [eS]; exact ⟨⟨_, hM.self⟩, fun _ => rfl, hfr⟩, x_at ht hP⟩, hS.F ht⟩) hS.2.2 dX8_ofPartner_43
        · refine lv_aload_n hx hb dX8_ofPartner_35 rfl (lv_at hl 0 rfl) ?_
          refine x_get (ref := RX8) (C := RX8) (T := TX8) (N := 8) (ci := 8) (v := .ref (q + 17)) hx hb hts iX8 hown hK.1 hP (by omega) (by omega) hM.self rfl 2 (by decide) (hts (.fieldLink RX8 18 "PoreFieldModel" "partners" "[[I") (by decide +kernel)) (fun _ h9 => h9) rfl dX8_ofPartner_36 ?_
          refine lv_iload_n hx hb dX8_ofPartner_39 rfl (lv_at hl 1 rfl) ?_
          obtain ⟨y15, g15, o15⟩ := hM.outer
          refine x_aaldA (b := (q + 18 + 1)) hx hb hK.1 hP (by omega) (by omega) 6 g15 rfl (cl_of_nI (i := 1) rfl (by omega)) (o15 1 (by omega)) (vp_in_of_nI (i := 1) rfl (by omega) (by omega)) dX8_ofPartner_40 ?_
          refine lv_iload_n hx hb dX8_ofPartner_41 rfl (lv_at hl 2 rfl) ?_
          obtain ⟨d16, g16, j16, z16⟩ := hM.row 1 (by omega)
          refine x_iald hx hb hK.1 hP (by omega) (by omega) 0 g16 rfl (cl_of_nI (i := 3) rfl (by omega)) (vp_in_of_nI (i := 3) rfl (by omega) (by omega)) dX8_ofPartner_42 ?_
          refine x_top (v' := (0 : Int32)) (z16 3 (by omega) (by omega)) ?_
          have eS : r_ofPartner (nI 1) (nI 3) = (0, (0 : Int32)) := by unfold r_ofPartner; rw [if_pos c_8, if_pos c_23] <;> first | rfl | decide
          exact W.iret (v := (0 : Int32)) hx hb hr (fun tE ht hW => ⟨⟨(0 : Int32), v1, rfl, by rw [eS]; exact ⟨⟨_, hM.self⟩, fun _ => rfl, hfr⟩, x_at ht hP⟩, hS.F ht⟩) hS.2.2 dX8_ofPartner_43
      · rcases (by omega : yi = 0 ∨ yi = 1 ∨ yi = 2 ∨ yi = 3) with rfl | rfl | rfl | rfl
        · refine lv_aload_n hx hb dX8_ofPartner_35 rfl (lv_at hl 0 rfl) ?_
          refine x_get (ref := RX8) (C := RX8) (T := TX8) (N := 8) (ci := 8) (v := .ref (q + 17)) hx hb hts iX8 hown hK.1 hP (by omega) (by omega) hM.self rfl 2 (by decide) (hts (.fieldLink RX8 18 "PoreFieldModel" "partners" "[[I") (by decide +kernel)) (fun _ h9 => h9) rfl dX8_ofPartner_36 ?_
          refine lv_iload_n hx hb dX8_ofPartner_39 rfl (lv_at hl 1 rfl) ?_
          obtain ⟨y17, g17, o17⟩ := hM.outer
          refine x_aaldA (b := (q + 18 + 2)) hx hb hK.1 hP (by omega) (by omega) 6 g17 rfl (cl_of_nI (i := 2) rfl (by omega)) (o17 2 (by omega)) (vp_in_of_nI (i := 2) rfl (by omega) (by omega)) dX8_ofPartner_40 ?_
          refine lv_iload_n hx hb dX8_ofPartner_41 rfl (lv_at hl 2 rfl) ?_
          obtain ⟨d18, g18, j18, z18⟩ := hM.row 2 (by omega)
          refine x_iald hx hb hK.1 hP (by omega) (by omega) 0 g18 rfl (cl_of_nI (i := 0) rfl (by omega)) (vp_in_of_nI (i := 0) rfl (by omega) (by omega)) dX8_ofPartner_42 ?_
          refine x_top (v' := (0 : Int32)) j18 ?_
          have eS : r_ofPartner (nI 2) (nI 0) = (0, (0 : Int32)) := by unfold r_ofPartner; rw [if_pos c_8, if_pos c_23] <;> first | rfl | decide
          exact W.iret (v := (0 : Int32)) hx hb hr (fun tE ht hW => ⟨⟨(0 : Int32), v1, rfl, by rw [eS]; exact ⟨⟨_, hM.self⟩, fun _ => rfl, hfr⟩, x_at ht hP⟩, hS.F ht⟩) hS.2.2 dX8_ofPartner_43
        · refine lv_aload_n hx hb dX8_ofPartner_35 rfl (lv_at hl 0 rfl) ?_
          refine x_get (ref := RX8) (C := RX8) (T := TX8) (N := 8) (ci := 8) (v := .ref (q + 17)) hx hb hts iX8 hown hK.1 hP (by omega) (by omega) hM.self rfl 2 (by decide) (hts (.fieldLink RX8 18 "PoreFieldModel" "partners" "[[I") (by decide +kernel)) (fun _ h9 => h9) rfl dX8_ofPartner_36 ?_
          refine lv_iload_n hx hb dX8_ofPartner_39 rfl (lv_at hl 1 rfl) ?_
          obtain ⟨y19, g19, o19⟩ := hM.outer
          refine x_aaldA (b := (q + 18 + 2)) hx hb hK.1 hP (by omega) (by omega) 6 g19 rfl (cl_of_nI (i := 2) rfl (by omega)) (o19 2 (by omega)) (vp_in_of_nI (i := 2) rfl (by omega) (by omega)) dX8_ofPartner_40 ?_
          refine lv_iload_n hx hb dX8_ofPartner_41 rfl (lv_at hl 2 rfl) ?_
          obtain ⟨d20, g20, j20, z20⟩ := hM.row 2 (by omega)
          refine x_iald hx hb hK.1 hP (by omega) (by omega) 0 g20 rfl (cl_of_nI (i := 1) rfl (by omega)) (vp_in_of_nI (i := 1) rfl (by omega) (by omega)) dX8_ofPartner_42 ?_
          refine x_top (v' := (0 : Int32)) (z20 1 (by omega) (by omega)) ?_
          have eS : r_ofPartner (nI 2) (nI 1) = (0, (0 : Int32)) := by unfold r_ofPartner; rw [if_pos c_8, if_pos c_23] <;> first | rfl | decide
          exact W.iret (v := (0 : Int32)) hx hb hr (fun tE ht hW => ⟨⟨(0 : Int32), v1, rfl, by rw [eS]; exact ⟨⟨_, hM.self⟩, fun _ => rfl, hfr⟩, x_at ht hP⟩, hS.F ht⟩) hS.2.2 dX8_ofPartner_43
        · refine lv_aload_n hx hb dX8_ofPartner_35 rfl (lv_at hl 0 rfl) ?_
          refine x_get (ref := RX8) (C := RX8) (T := TX8) (N := 8) (ci := 8) (v := .ref (q + 17)) hx hb hts iX8 hown hK.1 hP (by omega) (by omega) hM.self rfl 2 (by decide) (hts (.fieldLink RX8 18 "PoreFieldModel" "partners" "[[I") (by decide +kernel)) (fun _ h9 => h9) rfl dX8_ofPartner_36 ?_
          refine lv_iload_n hx hb dX8_ofPartner_39 rfl (lv_at hl 1 rfl) ?_
          obtain ⟨y21, g21, o21⟩ := hM.outer
          refine x_aaldA (b := (q + 18 + 2)) hx hb hK.1 hP (by omega) (by omega) 6 g21 rfl (cl_of_nI (i := 2) rfl (by omega)) (o21 2 (by omega)) (vp_in_of_nI (i := 2) rfl (by omega) (by omega)) dX8_ofPartner_40 ?_
          refine lv_iload_n hx hb dX8_ofPartner_41 rfl (lv_at hl 2 rfl) ?_
          obtain ⟨d22, g22, j22, z22⟩ := hM.row 2 (by omega)
          refine x_iald hx hb hK.1 hP (by omega) (by omega) 0 g22 rfl (cl_of_nI (i := 2) rfl (by omega)) (vp_in_of_nI (i := 2) rfl (by omega) (by omega)) dX8_ofPartner_42 ?_
          refine x_top (v' := (0 : Int32)) (z22 2 (by omega) (by omega)) ?_
          have eS : r_ofPartner (nI 2) (nI 2) = (0, (0 : Int32)) := by unfold r_ofPartner; rw [if_pos c_8, if_pos c_23] <;> first | rfl | decide
          exact W.iret (v := (0 : Int32)) hx hb hr (fun tE ht hW => ⟨⟨(0 : Int32), v1, rfl, by rw [eS]; exact ⟨⟨_, hM.self⟩, fun _ => rfl, hfr⟩, x_at ht hP⟩, hS.F ht⟩) hS.2.2 dX8_ofPartner_43
        · refine lv_aload_n hx hb dX8_ofPartner_35 rfl (lv_at hl 0 rfl) ?_
          refine x_get (ref := RX8) (C := RX8) (T := TX8) (N := 8) (ci := 8) (v := .ref (q + 17)) hx hb hts iX8 hown hK.1 hP (by omega) (by omega) hM.self rfl 2 (by decide) (hts (.fieldLink RX8 18 "PoreFieldModel" "partners" "[[I") (by decide +kernel)) (fun _ h9 => h9) rfl dX8_ofPartner_36 ?_
          refine lv_iload_n hx hb dX8_ofPartner_39 rfl (lv_at hl 1 rfl) ?_
          obtain ⟨y23, g23, o23⟩ := hM.outer
          refine x_aaldA (b := (q + 18 + 2)) hx hb hK.1 hP (by omega) (by omega) 6 g23 rfl (cl_of_nI (i := 2) rfl (by omega)) (o23 2 (by omega)) (vp_in_of_nI (i := 2) rfl (by omega) (by omega)) dX8_ofPartner_40 ?_
          refine lv_iload_n hx hb dX8_ofPartner_41 rfl (lv_at hl 2 rfl) ?_
          obtain ⟨d24, g24, j24, z24⟩ := hM.row 2 (by omega)
          refine x_iald hx hb hK.1 hP (by omega) (by omega) 0 g24 rfl (cl_of_nI (i := 3) rfl (by omega)) (vp_in_of_nI (i := 3) rfl (by omega) (by omega)) dX8_ofPartner_42 ?_
          refine x_top (v' := (0 : Int32)) (z24 3 (by omega) (by omega)) ?_
          have eS : r_ofPartner (nI 2) (nI 3) = (0, (0 : Int32)) := by unfold r_ofPartner; rw [if_pos c_8, if_pos c_23] <;> first | rfl | decide
          exact W.iret (v := (0 : Int32)) hx hb hr (fun tE ht hW => ⟨⟨(0 : Int32), v1, rfl, by rw [eS]; exact ⟨⟨_, hM.self⟩, fun _ => rfl, hfr⟩, x_at ht hP⟩, hS.F ht⟩) hS.2.2 dX8_ofPartner_43
    · refine x_top (v' := (0 : Int32)) (if_neg c_23) ?_
      refine lv_if_ne (tgt := 35) hx hb dX8_ofPartner_26 (by decide) (fun h => absurd (by decide) h) (fun _ => ?_)
      refine lv_aload_n hx hb dX8_ofPartner_29 rfl (lv_at hl 0 rfl) ?_
      refine lv_iconst (v := 2) hx hb dX8_ofPartner_30 (by decide) ?_
      refine x_callx (va_runV (As := [.int (2 : Int32)]) (rest := []) ⟨hx, hb, hml, hown, hts⟩ (c_X8_no l D cy lo n v1 q (by omega) (by omega) 0 hM hB hF (2 : Int32)) (cwV 1 hts gX8_ofPartner_X8_no rfl rfl rfl (by decide +kernel) ⟨Nat.le_of_ble_eq_true rfl, Nat.le_of_ble_eq_true rfl⟩) (preV hP hK (x_recv (ci := 8) (q := (RX8, TX8, 8)) hK.1 hP (by omega) (by omega) rfl hM.self)) rfl rfl hl.1 rfl (lv_room (Nat.le_of_ble_eq_true rfl)) dX8_ofPartner_31 ⟨Nat.le_of_ble_eq_true rfl, Nat.le_of_ble_eq_true rfl⟩) hS (fun r9 u2 H locs hX hP hS => ?_)
      obtain ⟨rfl, hM, hB, hF, hf9⟩ := hX
      have hfr := hfr.tr hf9 (by omega) (by omega)
      have eS : r_ofPartner (nI xi) y = (2, (0 : Int32)) := by unfold r_ofPartner; rw [if_pos c_8, if_neg c_23] <;> first | rfl | decide
      exact W.iret (v := (0 : Int32)) hx hb hr (fun tE ht hW => ⟨⟨(0 : Int32), u2, rfl, by rw [eS]; exact ⟨⟨_, hM.self⟩, fun _ => rfl, hfr⟩, x_at ht hP⟩, hS.F ht⟩) hS.2.2 dX8_ofPartner_34
  · refine x_top (v' := (0 : Int32)) (if_neg c_8) ?_
    refine lv_if_ne (tgt := 20) hx hb dX8_ofPartner_11 (by decide) (fun h => absurd (by decide) h) (fun _ => ?_)
    refine lv_aload_n hx hb dX8_ofPartner_14 rfl (lv_at hl 0 rfl) ?_
    refine lv_iconst (v := 1) hx hb dX8_ofPartner_15 (by decide) ?_
    refine x_callx (va_runV (As := [.int (1 : Int32)]) (rest := []) ⟨hx, hb, hml, hown, hts⟩ (c_X8_no l D cy lo n v1 q (by omega) (by omega) 0 hM hB hF (1 : Int32)) (cwV 1 hts gX8_ofPartner_X8_no rfl rfl rfl (by decide +kernel) ⟨Nat.le_of_ble_eq_true rfl, Nat.le_of_ble_eq_true rfl⟩) (preV hP hK (x_recv (ci := 8) (q := (RX8, TX8, 8)) hK.1 hP (by omega) (by omega) rfl hM.self)) rfl rfl hl.1 rfl (lv_room (Nat.le_of_ble_eq_true rfl)) dX8_ofPartner_16 ⟨Nat.le_of_ble_eq_true rfl, Nat.le_of_ble_eq_true rfl⟩) hS (fun r9 u3 H locs hX hP hS => ?_)
    obtain ⟨rfl, hM, hB, hF, hf9⟩ := hX
    have hfr := hfr.tr hf9 (by omega) (by omega)
    have eS : r_ofPartner x y = (1, (0 : Int32)) := by unfold r_ofPartner; rw [if_neg c_8] <;> first | rfl | decide
    exact W.iret (v := (0 : Int32)) hx hb hr (fun tE ht hW => ⟨⟨(0 : Int32), u3, rfl, by rw [eS]; exact ⟨⟨_, hM.self⟩, fun _ => rfl, hfr⟩, x_at ht hP⟩, hS.F ht⟩) hS.2.2 dX8_ofPartner_19

def r_capacity (x y : Int32) : Int32 × Int32 := if 0 ≤ x ∧ x ≤ 2 then (if 0 ≤ y ∧ y ≤ 99 then (0, 40) else (2, 0)) else (1, 0)
set_option maxRecDepth 100000 in
set_option maxHeartbeats 1000000 in
/-- capacity -/
theorem c_X8_capacity (l : Launch) (D : va_G) (cy : Nat → ClassId) (lo n : Nat) (w : Nat → va_E) (q : Nat) (h1 : lo ≤ q) (h2 : q + 22 ≤ lo + n) (th : Int32) (hM : MM cy w q th 5 0 0 0) (hB : LB cy w q) (hF : FM cy w (q + 1) 0 300) (x y : Int32) : Met l yX8_capacity wsX8_capacity ({ frames := 1, cells := 0, slots := 0, locals := 22 }) (PcW D cy lo n w [.ref q, .int x, .int y]) (QR D lo n q w (r_capacity x y)) 0 0 (fun q : Nat => lo ≤ q) := by
  refine Met.ofW (cc := cX8_capacity) (maxL := 4) (ret := (some .int)) (by decide) rfl ?_
  intro p e s m args below meth c s₁ B hml hv
  obtain ⟨rfl, hP, hK, hS⟩ := x_entry hv
  have hx := B.exec
  have hb := B.bytes
  have hr := B.returns
  have hts := atoms_spec (ws := wsX8_capacity) B.pre
  have hown : s.vm.findClass RX8 = some m.cls := findClass_of_methodNamed B.named
  have hlocks := B.notSynchronized
  have iX7 : ∀ w ∈ u_ws RX7 TX7 14, w ∈ wsX8_capacity := by decide +kernel
  have iX8 : ∀ w ∈ u_ws RX8 TX8 8, w ∈ wsX8_capacity := by decide +kernel
  have hl := lv_entry ([.ref q, .int x, .int y]) (n := 4) (Nat.le_of_ble_eq_true rfl)
  rw [lg_entry_eq]
  generalize (lg_sl ([.ref q, .int x, .int y]) ++ List.replicate (4 - (lg_sl ([.ref q, .int x, .int y])).length) Slot.unset).toArray = ls at hl ⊢
  have hl : lv_has ls 4 [(0, .ref q), (1, .int x), (2, .int y)] := hl
  have hfr : fr q 22 w w := fr.rf
  refine lv_aload_n hx hb dX8_capacity_0 rfl (lv_at hl 0 rfl) ?_
  refine lv_iconst (v := 0) hx hb dX8_capacity_1 (by decide) ?_
  refine x_put (ty := tyX8 0) (ref := RX8) (C := RX8) (T := TX8) (N := 8) (ci := 8) (v := .int (0 : Int32)) hx hb hts iX8 tyX8 tyX8_ok nmX8 hown hK.1 hP hS (by omega) (by omega) hM.self rfl 0 (by decide) (hts (.fieldLink RX8 29 "PoreFieldModel" "thrown" "I") (by decide +kernel)) (fun _ h9 => h9) rfl (by decide +kernel) rfl rfl (Nat.le_of_ble_eq_true rfl) dX8_capacity_2 (fun H locs hP hS => ?_)
  refine x_gen hP (fun v1 e1 hP => ?_)
  have hF : FM cy v1 (q + 1) 0 300 := by rw [e1]; exact hF.o (by omega)
  have hM : MM cy v1 q 0 5 0 0 0 := by rw [e1]; exact hM.up_self (th' := 0) (pr' := 5) (bk' := 0) (bo' := 0) (bw' := 0)
  have hB : LB cy v1 q := by rw [e1]; exact hB.o (by omega)
  have hfr : fr q 22 w v1 := by rw [e1]; exact hfr.up (by omega) (by omega)
  refine lv_iload_n hx hb dX8_capacity_5 rfl (lv_at hl 1 rfl) ?_
  refine lv_iconst (v := 0) hx hb dX8_capacity_6 (by decide) ?_
  refine lv_iconst (v := 2) hx hb dX8_capacity_7 (by decide) ?_
  refine x_calli (va_runS (As := [.int x, .int (0 : Int32), .int (2 : Int32)]) (rest := []) ⟨hx, hb, hml, hown, hts⟩ (c_X8_in l D cy lo n v1 x (0 : Int32) (2 : Int32)) (va_cwS 3 hts gX8_capacity_X8_in rfl rfl rfl (by decide +kernel) ⟨Nat.le_of_ble_eq_true rfl, Nat.le_of_ble_eq_true rfl⟩) (preS hP hK) rfl rfl hl.1 rfl (lv_room (Nat.le_of_ble_eq_true rfl)) dX8_capacity_8 ⟨Nat.le_of_ble_eq_true rfl, Nat.le_of_ble_eq_true rfl⟩) hS (fun H locs hP hS => ?_)
  by_cases c_8 : (0 : Int32) ≤ x ∧ x ≤ (2 : Int32)
  · refine x_top (v' := (1 : Int32)) (if_pos c_8) ?_
    obtain ⟨xi, h_xi, e_xi⟩ := nI_of2 (n := 2) (by decide) (Int32.not_lt.mpr (Int32.le_trans (by decide) c_8.1)) c_8.2
    subst e_xi
    refine lv_if_ne (tgt := 20) hx hb dX8_capacity_11 (by decide) (fun _ => ?_) (fun h => absurd h (by decide))
    refine lv_iload_n hx hb dX8_capacity_20 rfl (lv_at hl 2 rfl) ?_
    refine lv_iconst (v := 0) hx hb dX8_capacity_21 (by decide) ?_
    refine lv_bipush (v := 99) hx hb dX8_capacity_22 (by decide) ?_
    refine x_calli (va_runS (As := [.int y, .int (0 : Int32), .int (99 : Int32)]) (rest := []) ⟨hx, hb, hml, hown, hts⟩ (c_X8_in l D cy lo n v1 y (0 : Int32) (99 : Int32)) (va_cwS 3 hts gX8_capacity_X8_in rfl rfl rfl (by decide +kernel) ⟨Nat.le_of_ble_eq_true rfl, Nat.le_of_ble_eq_true rfl⟩) (preS hP hK) rfl rfl hl.1 rfl (lv_room (Nat.le_of_ble_eq_true rfl)) dX8_capacity_24 ⟨Nat.le_of_ble_eq_true rfl, Nat.le_of_ble_eq_true rfl⟩) hS (fun H locs hP hS => ?_)
    by_cases c_24 : (0 : Int32) ≤ y ∧ y ≤ (99 : Int32)
    · refine x_top (v' := (1 : Int32)) (if_pos c_24) ?_
      refine lv_if_ne (tgt := 36) hx hb dX8_capacity_27 (by decide) (fun _ => ?_) (fun h => absurd h (by decide))
      have hs7 := hF.self
      obtain ⟨d_capacity, h_capacity, k_capacity⟩ := hF.capacity
      refine lv_aload_n hx hb dX8_capacity_36 rfl (lv_at hl 0 rfl) ?_
      refine x_get (ref := RX8) (C := RX8) (T := TX8) (N := 8) (ci := 8) (v := .ref (q + 1)) hx hb hts iX8 hown hK.1 hP (by omega) (by omega) hM.self rfl 1 (by decide) (hts (.fieldLink RX8 10 "PoreFieldModel" "field" "LPoreFieldModel$Field;") (by decide +kernel)) (fun _ h9 => h9) rfl dX8_capacity_37 ?_
      refine x_get (ref := RX7) (C := RX7) (T := TX7) (N := 14) (ci := 7) (v := .ref ((q + 1) + 12)) hx hb hts iX7 hown hK.1 hP (by omega) (by omega) hs7 rfl 5 (by decide) (hts (.fieldLink RX8 73 "PoreFieldModel$Field" "capacity" "[I") (by decide +kernel)) (fun _ h9 => h9) rfl dX8_capacity_40 ?_
      refine lv_iload_n hx hb dX8_capacity_43 rfl (lv_at hl 1 rfl) ?_
      refine x_iald hx hb hK.1 hP (by omega) (by omega) 0 h_capacity rfl (cl_of_nI (i := xi) rfl (by omega)) (vp_in_of_nI (i := xi) rfl (by omega) (by omega)) dX8_capacity_44 ?_
      refine x_top (v' := (40 : Int32)) (k_capacity _ (by omega)) ?_
      refine lv_istore_n (lv' := [(3, .int (40 : Int32)), (0, .ref q), (1, .int (nI xi)), (2, .int y)]) hx hb dX8_capacity_45 rfl hl (by decide) rfl (fun ls hl => ?_)
      refine lv_aload_n hx hb dX8_capacity_46 rfl (lv_at hl 1 rfl) ?_
      refine x_get (ref := RX8) (C := RX8) (T := TX8) (N := 8) (ci := 8) (v := .ref (q + 1)) hx hb hts iX8 hown hK.1 hP (by omega) (by omega) hM.self rfl 1 (by decide) (hts (.fieldLink RX8 10 "PoreFieldModel" "field" "LPoreFieldModel$Field;") (by decide +kernel)) (fun _ h9 => h9) rfl dX8_capacity_47 ?_
      refine x_get (ref := RX7) (C := RX7) (T := TX7) (N := 14) (ci := 7) (v := .ref ((q + 1) + 12)) hx hb hts iX7 hown hK.1 hP (by omega) (by omega) hs7 rfl 5 (by decide) (hts (.fieldLink RX8 73 "PoreFieldModel$Field" "capacity" "[I") (by decide +kernel)) (fun _ h9 => h9) rfl dX8_capacity_50 ?_
      refine lv_iload_n hx hb dX8_capacity_53 rfl (lv_at hl 2 rfl) ?_
      refine lv_iload_n hx hb dX8_capacity_54 rfl (lv_at hl 3 rfl) ?_
      refine x_iast hx hb hK.1 hP hS (by omega) (by omega) 0 h_capacity rfl (cl_of_nI (i := xi) rfl (by omega)) (vp_in_of_nI (i := xi) rfl (by omega) (by omega)) dX8_capacity_55 (fun H locs hP hS => ?_)
      refine x_gen hP (fun v2 e2 hP => ?_)
      have hM : MM cy v2 q 0 5 0 0 0 := by rw [e2]; exact hM.o (by omega) (by omega) (by omega)
      have hB : LB cy v2 q := by rw [e2]; exact hB.o (by omega)
      have h_capacity : v2 ((q + 1) + 12) = .inl (cy 0, 3, .inl (upd d_capacity xi y)) := by rw [e2]; exact xu_same _ _ _
      have hs7 : v2 (q + 1) = .inr (7, [.ref ((q + 1) + 1), .ref ((q + 1) + 2), .ref ((q + 1) + 3), .ref ((q + 1) + 4), .ref ((q + 1) + 5), .ref ((q + 1) + 12), .ref ((q + 1) + 13), .ref ((q + 1) + 14), .ref ((q + 1) + 15), .int (0 : Int32), .int (0 : Int32), .int (10 : Int32), .int (300 : Int32), .int (0 : Int32)]) := by rw [e2]; exact (xu_ne (by omega)).trans hs7
      have hfr : fr q 22 w v2 := by rw [e2]; exact hfr.up (by omega) (by omega)
      refine lv_iload_n hx hb dX8_capacity_56 rfl (lv_at hl 0 rfl) ?_
      have eS : r_capacity (nI xi) y = (0, (40 : Int32)) := by unfold r_capacity; rw [if_pos c_8, if_pos c_24] <;> first | rfl | decide
      exact W.iret (v := (40 : Int32)) hx hb hr (fun tE ht hW => ⟨⟨(40 : Int32), v2, rfl, by rw [eS]; exact ⟨⟨_, hM.self⟩, fun _ => rfl, hfr⟩, x_at ht hP⟩, hS.F ht⟩) hS.2.2 dX8_capacity_57
    · refine x_top (v' := (0 : Int32)) (if_neg c_24) ?_
      refine lv_if_ne (tgt := 36) hx hb dX8_capacity_27 (by decide) (fun h => absurd (by decide) h) (fun _ => ?_)
      refine lv_aload_n hx hb dX8_capacity_30 rfl (lv_at hl 0 rfl) ?_
      refine lv_iconst (v := 2) hx hb dX8_capacity_31 (by decide) ?_
      refine x_callx (va_runV (As := [.int (2 : Int32)]) (rest := []) ⟨hx, hb, hml, hown, hts⟩ (c_X8_no l D cy lo n v1 q (by omega) (by omega) 0 hM hB hF (2 : Int32)) (cwV 1 hts gX8_capacity_X8_no rfl rfl rfl (by decide +kernel) ⟨Nat.le_of_ble_eq_true rfl, Nat.le_of_ble_eq_true rfl⟩) (preV hP hK (x_recv (ci := 8) (q := (RX8, TX8, 8)) hK.1 hP (by omega) (by omega) rfl hM.self)) rfl rfl hl.1 rfl (lv_room (Nat.le_of_ble_eq_true rfl)) dX8_capacity_32 ⟨Nat.le_of_ble_eq_true rfl, Nat.le_of_ble_eq_true rfl⟩) hS (fun r9 u3 H locs hX hP hS => ?_)
      obtain ⟨rfl, hM, hB, hF, hf9⟩ := hX
      have hfr := hfr.tr hf9 (by omega) (by omega)
      have eS : r_capacity (nI xi) y = (2, (0 : Int32)) := by unfold r_capacity; rw [if_pos c_8, if_neg c_24] <;> first | rfl | decide
      exact W.iret (v := (0 : Int32)) hx hb hr (fun tE ht hW => ⟨⟨(0 : Int32), u3, rfl, by rw [eS]; exact ⟨⟨_, hM.self⟩, fun _ => rfl, hfr⟩, x_at ht hP⟩, hS.F ht⟩) hS.2.2 dX8_capacity_35
  · refine x_top (v' := (0 : Int32)) (if_neg c_8) ?_
    refine lv_if_ne (tgt := 20) hx hb dX8_capacity_11 (by decide) (fun h => absurd (by decide) h) (fun _ => ?_)
    refine lv_aload_n hx hb dX8_capacity_14 rfl (lv_at hl 0 rfl) ?_
    refine lv_iconst (v := 1) hx hb dX8_capacity_15 (by decide) ?_
    refine x_callx (va_runV (As := [.int (1 : Int32)]) (rest := []) ⟨hx, hb, hml, hown, hts⟩ (c_X8_no l D cy lo n v1 q (by omega) (by omega) 0 hM hB hF (1 : Int32)) (cwV 1 hts gX8_capacity_X8_no rfl rfl rfl (by decide +kernel) ⟨Nat.le_of_ble_eq_true rfl, Nat.le_of_ble_eq_true rfl⟩) (preV hP hK (x_recv (ci := 8) (q := (RX8, TX8, 8)) hK.1 hP (by omega) (by omega) rfl hM.self)) rfl rfl hl.1 rfl (lv_room (Nat.le_of_ble_eq_true rfl)) dX8_capacity_16 ⟨Nat.le_of_ble_eq_true rfl, Nat.le_of_ble_eq_true rfl⟩) hS (fun r9 u4 H locs hX hP hS => ?_)
    obtain ⟨rfl, hM, hB, hF, hf9⟩ := hX
    have hfr := hfr.tr hf9 (by omega) (by omega)
    have eS : r_capacity x y = (1, (0 : Int32)) := by unfold r_capacity; rw [if_neg c_8] <;> first | rfl | decide
    exact W.iret (v := (0 : Int32)) hx hb hr (fun tE ht hW => ⟨⟨(0 : Int32), u4, rfl, by rw [eS]; exact ⟨⟨_, hM.self⟩, fun _ => rfl, hfr⟩, x_at ht hP⟩, hS.F ht⟩) hS.2.2 dX8_capacity_19

def r_permit (x : Int32) : Int32 × Int32 := if 0 ≤ x ∧ x ≤ 99 then (0, 10) else (1, 0)
set_option maxRecDepth 100000 in
set_option maxHeartbeats 1000000 in
/-- permit -/
theorem c_X8_permit (l : Launch) (D : va_G) (cy : Nat → ClassId) (lo n : Nat) (w : Nat → va_E) (q : Nat) (h1 : lo ≤ q) (h2 : q + 22 ≤ lo + n) (th : Int32) (hM : MM cy w q th 5 0 0 0) (hB : LB cy w q) (hF : FM cy w (q + 1) 0 300) (x : Int32) : Met l yX8_permit wsX8_permit ({ frames := 1, cells := 0, slots := 0, locals := 22 }) (PcW D cy lo n w [.ref q, .int x]) (QR D lo n q w (r_permit x)) 0 0 (fun q : Nat => lo ≤ q) := by
  refine Met.ofW (cc := cX8_permit) (maxL := 3) (ret := (some .int)) (by decide) rfl ?_
  intro p e s m args below meth c s₁ B hml hv
  obtain ⟨rfl, hP, hK, hS⟩ := x_entry hv
  have hx := B.exec
  have hb := B.bytes
  have hr := B.returns
  have hts := atoms_spec (ws := wsX8_permit) B.pre
  have hown : s.vm.findClass RX8 = some m.cls := findClass_of_methodNamed B.named
  have hlocks := B.notSynchronized
  have iX7 : ∀ w ∈ u_ws RX7 TX7 14, w ∈ wsX8_permit := by decide +kernel
  have iX8 : ∀ w ∈ u_ws RX8 TX8 8, w ∈ wsX8_permit := by decide +kernel
  have hl := lv_entry ([.ref q, .int x]) (n := 3) (Nat.le_of_ble_eq_true rfl)
  rw [lg_entry_eq]
  generalize (lg_sl ([.ref q, .int x]) ++ List.replicate (3 - (lg_sl ([.ref q, .int x])).length) Slot.unset).toArray = ls at hl ⊢
  have hl : lv_has ls 3 [(0, .ref q), (1, .int x)] := hl
  have hfr : fr q 22 w w := fr.rf
  refine lv_aload_n hx hb dX8_permit_0 rfl (lv_at hl 0 rfl) ?_
  refine lv_iconst (v := 0) hx hb dX8_permit_1 (by decide) ?_
  refine x_put (ty := tyX8 0) (ref := RX8) (C := RX8) (T := TX8) (N := 8) (ci := 8) (v := .int (0 : Int32)) hx hb hts iX8 tyX8 tyX8_ok nmX8 hown hK.1 hP hS (by omega) (by omega) hM.self rfl 0 (by decide) (hts (.fieldLink RX8 29 "PoreFieldModel" "thrown" "I") (by decide +kernel)) (fun _ h9 => h9) rfl (by decide +kernel) rfl rfl (Nat.le_of_ble_eq_true rfl) dX8_permit_2 (fun H locs hP hS => ?_)
  refine x_gen hP (fun v1 e1 hP => ?_)
  have hF : FM cy v1 (q + 1) 0 300 := by rw [e1]; exact hF.o (by omega)
  have hM : MM cy v1 q 0 5 0 0 0 := by rw [e1]; exact hM.up_self (th' := 0) (pr' := 5) (bk' := 0) (bo' := 0) (bw' := 0)
  have hB : LB cy v1 q := by rw [e1]; exact hB.o (by omega)
  have hfr : fr q 22 w v1 := by rw [e1]; exact hfr.up (by omega) (by omega)
  refine lv_iload_n hx hb dX8_permit_5 rfl (lv_at hl 1 rfl) ?_
  refine lv_iconst (v := 0) hx hb dX8_permit_6 (by decide) ?_
  refine lv_bipush (v := 99) hx hb dX8_permit_7 (by decide) ?_
  refine x_calli (va_runS (As := [.int x, .int (0 : Int32), .int (99 : Int32)]) (rest := []) ⟨hx, hb, hml, hown, hts⟩ (c_X8_in l D cy lo n v1 x (0 : Int32) (99 : Int32)) (va_cwS 3 hts gX8_permit_X8_in rfl rfl rfl (by decide +kernel) ⟨Nat.le_of_ble_eq_true rfl, Nat.le_of_ble_eq_true rfl⟩) (preS hP hK) rfl rfl hl.1 rfl (lv_room (Nat.le_of_ble_eq_true rfl)) dX8_permit_9 ⟨Nat.le_of_ble_eq_true rfl, Nat.le_of_ble_eq_true rfl⟩) hS (fun H locs hP hS => ?_)
  by_cases c_9 : (0 : Int32) ≤ x ∧ x ≤ (99 : Int32)
  · refine x_top (v' := (1 : Int32)) (if_pos c_9) ?_
    refine lv_if_ne (tgt := 21) hx hb dX8_permit_12 (by decide) (fun _ => ?_) (fun h => absurd h (by decide))
    have hs7 := hF.self
    refine lv_aload_n hx hb dX8_permit_21 rfl (lv_at hl 0 rfl) ?_
    refine x_get (ref := RX8) (C := RX8) (T := TX8) (N := 8) (ci := 8) (v := .ref (q + 1)) hx hb hts iX8 hown hK.1 hP (by omega) (by omega) hM.self rfl 1 (by decide) (hts (.fieldLink RX8 10 "PoreFieldModel" "field" "LPoreFieldModel$Field;") (by decide +kernel)) (fun _ h9 => h9) rfl dX8_permit_22 ?_
    refine x_get (ref := RX7) (C := RX7) (T := TX7) (N := 14) (ci := 7) (v := .int (10 : Int32)) hx hb hts iX7 hown hK.1 hP (by omega) (by omega) hs7 rfl 11 (by decide) (hts (.fieldLink RX8 76 "PoreFieldModel$Field" "permit" "I") (by decide +kernel)) (fun _ h9 => h9) rfl dX8_permit_25 ?_
    refine lv_istore_n (lv' := [(2, .int (10 : Int32)), (0, .ref q), (1, .int x)]) hx hb dX8_permit_28 rfl hl (by decide) rfl (fun ls hl => ?_)
    refine lv_aload_n hx hb dX8_permit_29 rfl (lv_at hl 1 rfl) ?_
    refine x_get (ref := RX8) (C := RX8) (T := TX8) (N := 8) (ci := 8) (v := .ref (q + 1)) hx hb hts iX8 hown hK.1 hP (by omega) (by omega) hM.self rfl 1 (by decide) (hts (.fieldLink RX8 10 "PoreFieldModel" "field" "LPoreFieldModel$Field;") (by decide +kernel)) (fun _ h9 => h9) rfl dX8_permit_30 ?_
    refine lv_iload_n hx hb dX8_permit_33 rfl (lv_at hl 2 rfl) ?_
    refine x_put (ty := tyX7 11) (ref := RX7) (C := RX7) (T := TX7) (N := 14) (ci := 7) (v := .int x) hx hb hts iX7 tyX7 tyX7_ok nmX7 hown hK.1 hP hS (by omega) (by omega) hs7 rfl 11 (by decide) (hts (.fieldLink RX8 76 "PoreFieldModel$Field" "permit" "I") (by decide +kernel)) (fun _ h9 => h9) rfl (by decide +kernel) rfl rfl (Nat.le_of_ble_eq_true rfl) dX8_permit_34 (fun H locs hP hS => ?_)
    refine x_gen hP (fun v2 e2 hP => ?_)
    have hM : MM cy v2 q 0 5 0 0 0 := by rw [e2]; exact hM.o (by omega) (by omega) (by omega)
    have hB : LB cy v2 q := by rw [e2]; exact hB.o (by omega)
    have hs7 : v2 (q + 1) = .inr (7, [.ref ((q + 1) + 1), .ref ((q + 1) + 2), .ref ((q + 1) + 3), .ref ((q + 1) + 4), .ref ((q + 1) + 5), .ref ((q + 1) + 12), .ref ((q + 1) + 13), .ref ((q + 1) + 14), .ref ((q + 1) + 15), .int (0 : Int32), .int (0 : Int32), .int x, .int (300 : Int32), .int (0 : Int32)]) := by rw [e2]; exact xu_same _ _ _
    have hfr : fr q 22 w v2 := by rw [e2]; exact hfr.up (by omega) (by omega)
    refine lv_iload_n hx hb dX8_permit_37 rfl (lv_at hl 0 rfl) ?_
    have eS : r_permit x = (0, (10 : Int32)) := by unfold r_permit; rw [if_pos c_9] <;> first | rfl | decide
    exact W.iret (v := (10 : Int32)) hx hb hr (fun tE ht hW => ⟨⟨(10 : Int32), v2, rfl, by rw [eS]; exact ⟨⟨_, hM.self⟩, fun _ => rfl, hfr⟩, x_at ht hP⟩, hS.F ht⟩) hS.2.2 dX8_permit_38
  · refine x_top (v' := (0 : Int32)) (if_neg c_9) ?_
    refine lv_if_ne (tgt := 21) hx hb dX8_permit_12 (by decide) (fun h => absurd (by decide) h) (fun _ => ?_)
    refine lv_aload_n hx hb dX8_permit_15 rfl (lv_at hl 0 rfl) ?_
    refine lv_iconst (v := 1) hx hb dX8_permit_16 (by decide) ?_
    refine x_callx (va_runV (As := [.int (1 : Int32)]) (rest := []) ⟨hx, hb, hml, hown, hts⟩ (c_X8_no l D cy lo n v1 q (by omega) (by omega) 0 hM hB hF (1 : Int32)) (cwV 1 hts gX8_permit_X8_no rfl rfl rfl (by decide +kernel) ⟨Nat.le_of_ble_eq_true rfl, Nat.le_of_ble_eq_true rfl⟩) (preV hP hK (x_recv (ci := 8) (q := (RX8, TX8, 8)) hK.1 hP (by omega) (by omega) rfl hM.self)) rfl rfl hl.1 rfl (lv_room (Nat.le_of_ble_eq_true rfl)) dX8_permit_17 ⟨Nat.le_of_ble_eq_true rfl, Nat.le_of_ble_eq_true rfl⟩) hS (fun r9 u3 H locs hX hP hS => ?_)
    obtain ⟨rfl, hM, hB, hF, hf9⟩ := hX
    have hfr := hfr.tr hf9 (by omega) (by omega)
    have eS : r_permit x = (1, (0 : Int32)) := by unfold r_permit; rw [if_neg c_9] <;> first | rfl | decide
    exact W.iret (v := (0 : Int32)) hx hb hr (fun tE ht hW => ⟨⟨(0 : Int32), u3, rfl, by rw [eS]; exact ⟨⟨_, hM.self⟩, fun _ => rfl, hfr⟩, x_at ht hP⟩, hS.F ht⟩) hS.2.2 dX8_permit_20

def r_tank (x : Int32) : Int32 × Int32 := if 0 ≤ x ∧ x ≤ 999 then (0, 0) else (1, 0)
set_option maxRecDepth 100000 in
set_option maxHeartbeats 1000000 in
/-- tank -/
theorem c_X8_tank (l : Launch) (D : va_G) (cy : Nat → ClassId) (lo n : Nat) (w : Nat → va_E) (q : Nat) (h1 : lo ≤ q) (h2 : q + 22 ≤ lo + n) (th : Int32) (hM : MM cy w q th 5 0 0 0) (hB : LB cy w q) (hF : FM cy w (q + 1) 0 300) (x : Int32) : Met l yX8_tank wsX8_tank ({ frames := 1, cells := 0, slots := 0, locals := 22 }) (PcW D cy lo n w [.ref q, .int x]) (QR D lo n q w (r_tank x)) 0 0 (fun q : Nat => lo ≤ q) := by
  refine Met.ofW (cc := cX8_tank) (maxL := 2) (ret := (some .int)) (by decide) rfl ?_
  intro p e s m args below meth c s₁ B hml hv
  obtain ⟨rfl, hP, hK, hS⟩ := x_entry hv
  have hx := B.exec
  have hb := B.bytes
  have hr := B.returns
  have hts := atoms_spec (ws := wsX8_tank) B.pre
  have hown : s.vm.findClass RX8 = some m.cls := findClass_of_methodNamed B.named
  have hlocks := B.notSynchronized
  have iX7 : ∀ w ∈ u_ws RX7 TX7 14, w ∈ wsX8_tank := by decide +kernel
  have iX8 : ∀ w ∈ u_ws RX8 TX8 8, w ∈ wsX8_tank := by decide +kernel
  have hl := lv_entry ([.ref q, .int x]) (n := 2) (Nat.le_of_ble_eq_true rfl)
  rw [lg_entry_eq]
  generalize (lg_sl ([.ref q, .int x]) ++ List.replicate (2 - (lg_sl ([.ref q, .int x])).length) Slot.unset).toArray = ls at hl ⊢
  have hl : lv_has ls 2 [(0, .ref q), (1, .int x)] := hl
  have hfr : fr q 22 w w := fr.rf
  refine lv_aload_n hx hb dX8_tank_0 rfl (lv_at hl 0 rfl) ?_
  refine lv_iconst (v := 0) hx hb dX8_tank_1 (by decide) ?_
  refine x_put (ty := tyX8 0) (ref := RX8) (C := RX8) (T := TX8) (N := 8) (ci := 8) (v := .int (0 : Int32)) hx hb hts iX8 tyX8 tyX8_ok nmX8 hown hK.1 hP hS (by omega) (by omega) hM.self rfl 0 (by decide) (hts (.fieldLink RX8 29 "PoreFieldModel" "thrown" "I") (by decide +kernel)) (fun _ h9 => h9) rfl (by decide +kernel) rfl rfl (Nat.le_of_ble_eq_true rfl) dX8_tank_2 (fun H locs hP hS => ?_)
  refine x_gen hP (fun v1 e1 hP => ?_)
  have hF : FM cy v1 (q + 1) 0 300 := by rw [e1]; exact hF.o (by omega)
  have hM : MM cy v1 q 0 5 0 0 0 := by rw [e1]; exact hM.up_self (th' := 0) (pr' := 5) (bk' := 0) (bo' := 0) (bw' := 0)
  have hB : LB cy v1 q := by rw [e1]; exact hB.o (by omega)
  have hfr : fr q 22 w v1 := by rw [e1]; exact hfr.up (by omega) (by omega)
  refine lv_iload_n hx hb dX8_tank_5 rfl (lv_at hl 1 rfl) ?_
  refine lv_iconst (v := 0) hx hb dX8_tank_6 (by decide) ?_
  refine lv_sipush (v := 999) hx hb dX8_tank_7 (by decide) ?_
  refine x_calli (va_runS (As := [.int x, .int (0 : Int32), .int (999 : Int32)]) (rest := []) ⟨hx, hb, hml, hown, hts⟩ (c_X8_in l D cy lo n v1 x (0 : Int32) (999 : Int32)) (va_cwS 3 hts gX8_tank_X8_in rfl rfl rfl (by decide +kernel) ⟨Nat.le_of_ble_eq_true rfl, Nat.le_of_ble_eq_true rfl⟩) (preS hP hK) rfl rfl hl.1 rfl (lv_room (Nat.le_of_ble_eq_true rfl)) dX8_tank_10 ⟨Nat.le_of_ble_eq_true rfl, Nat.le_of_ble_eq_true rfl⟩) hS (fun H locs hP hS => ?_)
  by_cases c_10 : (0 : Int32) ≤ x ∧ x ≤ (999 : Int32)
  · refine x_top (v' := (1 : Int32)) (if_pos c_10) ?_
    refine lv_if_ne (tgt := 22) hx hb dX8_tank_13 (by decide) (fun _ => ?_) (fun h => absurd h (by decide))
    refine lv_aload_n hx hb dX8_tank_22 rfl (lv_at hl 0 rfl) ?_
    refine x_get (ref := RX8) (C := RX8) (T := TX8) (N := 8) (ci := 8) (v := .ref (q + 1)) hx hb hts iX8 hown hK.1 hP (by omega) (by omega) hM.self rfl 1 (by decide) (hts (.fieldLink RX8 10 "PoreFieldModel" "field" "LPoreFieldModel$Field;") (by decide +kernel)) (fun _ h9 => h9) rfl dX8_tank_23 ?_
    refine x_get (ref := RX7) (C := RX7) (T := TX7) (N := 14) (ci := 7) (v := .int (0 : Int32)) hx hb hts iX7 hown hK.1 hP (by omega) (by omega) hF.self rfl 13 (by decide) (hts (.fieldLink RX8 79 "PoreFieldModel$Field" "stored" "I") (by decide +kernel)) (fun _ h9 => h9) rfl dX8_tank_26 ?_
    refine lv_iload_n hx hb dX8_tank_29 rfl (lv_at hl 1 rfl) ?_
    refine lv_icmp_le (tgt := 39) hx hb dX8_tank_30 (by decide) (fun _ => ?_) (fun h => absurd c_10.1 h)
    refine lv_aload_n hx hb dX8_tank_39 rfl (lv_at hl 0 rfl) ?_
    refine x_get (ref := RX8) (C := RX8) (T := TX8) (N := 8) (ci := 8) (v := .ref (q + 1)) hx hb hts iX8 hown hK.1 hP (by omega) (by omega) hM.self rfl 1 (by decide) (hts (.fieldLink RX8 10 "PoreFieldModel" "field" "LPoreFieldModel$Field;") (by decide +kernel)) (fun _ h9 => h9) rfl dX8_tank_40 ?_
    refine lv_iload_n hx hb dX8_tank_43 rfl (lv_at hl 1 rfl) ?_
    refine x_put (ty := tyX7 12) (ref := RX7) (C := RX7) (T := TX7) (N := 14) (ci := 7) (v := .int x) hx hb hts iX7 tyX7 tyX7_ok nmX7 hown hK.1 hP hS (by omega) (by omega) hF.self rfl 12 (by decide) (hts (.fieldLink RX8 82 "PoreFieldModel$Field" "tank" "I") (by decide +kernel)) (fun _ h9 => h9) rfl (by decide +kernel) rfl rfl (Nat.le_of_ble_eq_true rfl) dX8_tank_44 (fun H locs hP hS => ?_)
    refine x_gen hP (fun v2 e2 hP => ?_)
    have hF : FM cy v2 (q + 1) 0 x := by rw [e2]; exact hF.up_self (nw' := 0) (tk' := x)
    have hM : MM cy v2 q 0 5 0 0 0 := by rw [e2]; exact hM.o (by omega) (by omega) (by omega)
    have hB : LB cy v2 q := by rw [e2]; exact hB.o (by omega)
    have hfr : fr q 22 w v2 := by rw [e2]; exact hfr.up (by omega) (by omega)
    refine lv_aload_n hx hb dX8_tank_47 rfl (lv_at hl 0 rfl) ?_
    refine x_get (ref := RX8) (C := RX8) (T := TX8) (N := 8) (ci := 8) (v := .ref (q + 1)) hx hb hts iX8 hown hK.1 hP (by omega) (by omega) hM.self rfl 1 (by decide) (hts (.fieldLink RX8 10 "PoreFieldModel" "field" "LPoreFieldModel$Field;") (by decide +kernel)) (fun _ h9 => h9) rfl dX8_tank_48 ?_
    refine x_get (ref := RX7) (C := RX7) (T := TX7) (N := 14) (ci := 7) (v := .int (0 : Int32)) hx hb hts iX7 hown hK.1 hP (by omega) (by omega) hF.self rfl 13 (by decide) (hts (.fieldLink RX8 79 "PoreFieldModel$Field" "stored" "I") (by decide +kernel)) (fun _ h9 => h9) rfl dX8_tank_51 ?_
    have eS : r_tank x = (0, (0 : Int32)) := by unfold r_tank; rw [if_pos c_10] <;> first | rfl | decide
    exact W.iret (v := (0 : Int32)) hx hb hr (fun tE ht hW => ⟨⟨(0 : Int32), v2, rfl, by rw [eS]; exact ⟨⟨_, hM.self⟩, fun _ => rfl, hfr⟩, x_at ht hP⟩, hS.F ht⟩) hS.2.2 dX8_tank_54
  · refine x_top (v' := (0 : Int32)) (if_neg c_10) ?_
    refine lv_if_ne (tgt := 22) hx hb dX8_tank_13 (by decide) (fun h => absurd (by decide) h) (fun _ => ?_)
    refine lv_aload_n hx hb dX8_tank_16 rfl (lv_at hl 0 rfl) ?_
    refine lv_iconst (v := 1) hx hb dX8_tank_17 (by decide) ?_
    refine x_callx (va_runV (As := [.int (1 : Int32)]) (rest := []) ⟨hx, hb, hml, hown, hts⟩ (c_X8_no l D cy lo n v1 q (by omega) (by omega) 0 hM hB hF (1 : Int32)) (cwV 1 hts gX8_tank_X8_no rfl rfl rfl (by decide +kernel) ⟨Nat.le_of_ble_eq_true rfl, Nat.le_of_ble_eq_true rfl⟩) (preV hP hK (x_recv (ci := 8) (q := (RX8, TX8, 8)) hK.1 hP (by omega) (by omega) rfl hM.self)) rfl rfl hl.1 rfl (lv_room (Nat.le_of_ble_eq_true rfl)) dX8_tank_18 ⟨Nat.le_of_ble_eq_true rfl, Nat.le_of_ble_eq_true rfl⟩) hS (fun r9 u3 H locs hX hP hS => ?_)
    obtain ⟨rfl, hM, hB, hF, hf9⟩ := hX
    have hfr := hfr.tr hf9 (by omega) (by omega)
    have eS : r_tank x = (1, (0 : Int32)) := by unfold r_tank; rw [if_neg c_10] <;> first | rfl | decide
    exact W.iret (v := (0 : Int32)) hx hb hr (fun tE ht hW => ⟨⟨(0 : Int32), u3, rfl, by rw [eS]; exact ⟨⟨_, hM.self⟩, fun _ => rfl, hfr⟩, x_at ht hP⟩, hS.F ht⟩) hS.2.2 dX8_tank_21

def r_well (x y : Int32) : Int32 × Int32 := if 0 ≤ y ∧ y ≤ 15 then (if 0 ≤ x ∧ x ≤ 2 then (0, 0) else (2, 0)) else (1, 0)
set_option maxRecDepth 100000 in
set_option maxHeartbeats 1000000 in
/-- well -/
theorem c_X8_well (l : Launch) (D : va_G) (cy : Nat → ClassId) (lo n : Nat) (w : Nat → va_E) (q : Nat) (h1 : lo ≤ q) (h2 : q + 22 ≤ lo + n) (th : Int32) (hM : MM cy w q th 5 0 0 0) (hB : LB cy w q) (hF : FM cy w (q + 1) 0 300) (x y : Int32) : Met l yX8_well wsX8_well ({ frames := 2, cells := 0, slots := 0, locals := 42 }) (PcW D cy lo n w [.ref q, .int x, .int y]) (QR D lo n q w (r_well x y)) 0 0 (fun q : Nat => lo ≤ q) := by
  refine Met.ofW (cc := cX8_well) (maxL := 4) (ret := (some .int)) (by decide) rfl ?_
  intro p e s m args below meth c s₁ B hml hv
  obtain ⟨rfl, hP, hK, hS⟩ := x_entry hv
  have hx := B.exec
  have hb := B.bytes
  have hr := B.returns
  have hts := atoms_spec (ws := wsX8_well) B.pre
  have hown : s.vm.findClass RX8 = some m.cls := findClass_of_methodNamed B.named
  have hlocks := B.notSynchronized
  have iX7 : ∀ w ∈ u_ws RX7 TX7 14, w ∈ wsX8_well := by decide +kernel
  have iX8 : ∀ w ∈ u_ws RX8 TX8 8, w ∈ wsX8_well := by decide +kernel
  have hl := lv_entry ([.ref q, .int x, .int y]) (n := 4) (Nat.le_of_ble_eq_true rfl)
  rw [lg_entry_eq]
  generalize (lg_sl ([.ref q, .int x, .int y]) ++ List.replicate (4 - (lg_sl ([.ref q, .int x, .int y])).length) Slot.unset).toArray = ls at hl ⊢
  have hl : lv_has ls 4 [(0, .ref q), (1, .int x), (2, .int y)] := hl
  have hfr : fr q 22 w w := fr.rf
  refine lv_aload_n hx hb dX8_well_0 rfl (lv_at hl 0 rfl) ?_
  refine lv_iconst (v := 0) hx hb dX8_well_1 (by decide) ?_
  refine x_put (ty := tyX8 0) (ref := RX8) (C := RX8) (T := TX8) (N := 8) (ci := 8) (v := .int (0 : Int32)) hx hb hts iX8 tyX8 tyX8_ok nmX8 hown hK.1 hP hS (by omega) (by omega) hM.self rfl 0 (by decide) (hts (.fieldLink RX8 29 "PoreFieldModel" "thrown" "I") (by decide +kernel)) (fun _ h9 => h9) rfl (by decide +kernel) rfl rfl (Nat.le_of_ble_eq_true rfl) dX8_well_2 (fun H locs hP hS => ?_)
  refine x_gen hP (fun v1 e1 hP => ?_)
  have hF : FM cy v1 (q + 1) 0 300 := by rw [e1]; exact hF.o (by omega)
  have hM : MM cy v1 q 0 5 0 0 0 := by rw [e1]; exact hM.up_self (th' := 0) (pr' := 5) (bk' := 0) (bo' := 0) (bw' := 0)
  have hB : LB cy v1 q := by rw [e1]; exact hB.o (by omega)
  have hfr : fr q 22 w v1 := by rw [e1]; exact hfr.up (by omega) (by omega)
  refine lv_iload_n hx hb dX8_well_5 rfl (lv_at hl 2 rfl) ?_
  refine x_calli (va_runS (As := [.int y]) (rest := []) ⟨hx, hb, hml, hown, hts⟩ (c_X8_isCell l D cy lo n v1 y) (va_cwS 1 hts gX8_well_X8_isCell rfl rfl rfl (by decide +kernel) ⟨Nat.le_of_ble_eq_true rfl, Nat.le_of_ble_eq_true rfl⟩) (preS hP hK) rfl rfl hl.1 rfl (lv_room (Nat.le_of_ble_eq_true rfl)) dX8_well_6 ⟨Nat.le_of_ble_eq_true rfl, Nat.le_of_ble_eq_true rfl⟩) hS (fun H locs hP hS => ?_)
  by_cases c_6 : 0 ≤ y ∧ y ≤ 15
  · refine x_top (v' := (1 : Int32)) (if_pos c_6) ?_
    obtain ⟨yi, h_yi, e_yi⟩ := nI_of2 (n := 15) (by decide) (Int32.not_lt.mpr (Int32.le_trans (by decide) c_6.1)) c_6.2
    subst e_yi
    refine lv_if_ne (tgt := 18) hx hb dX8_well_9 (by decide) (fun _ => ?_) (fun h => absurd h (by decide))
    refine lv_iload_n hx hb dX8_well_18 rfl (lv_at hl 1 rfl) ?_
    refine lv_iconst (v := 0) hx hb dX8_well_19 (by decide) ?_
    refine lv_iconst (v := 2) hx hb dX8_well_20 (by decide) ?_
    refine x_calli (va_runS (As := [.int x, .int (0 : Int32), .int (2 : Int32)]) (rest := []) ⟨hx, hb, hml, hown, hts⟩ (c_X8_in l D cy lo n v1 x (0 : Int32) (2 : Int32)) (va_cwS 3 hts gX8_well_X8_in rfl rfl rfl (by decide +kernel) ⟨Nat.le_of_ble_eq_true rfl, Nat.le_of_ble_eq_true rfl⟩) (preS hP hK) rfl rfl hl.1 rfl (lv_room (Nat.le_of_ble_eq_true rfl)) dX8_well_21 ⟨Nat.le_of_ble_eq_true rfl, Nat.le_of_ble_eq_true rfl⟩) hS (fun H locs hP hS => ?_)
    by_cases c_21 : (0 : Int32) ≤ x ∧ x ≤ (2 : Int32)
    · refine x_top (v' := (1 : Int32)) (if_pos c_21) ?_
      refine lv_if_ne (tgt := 33) hx hb dX8_well_24 (by decide) (fun _ => ?_) (fun h => absurd h (by decide))
      refine lv_aload_n hx hb dX8_well_33 rfl (lv_at hl 0 rfl) ?_
      refine x_get (ref := RX8) (C := RX8) (T := TX8) (N := 8) (ci := 8) (v := .ref (q + 1)) hx hb hts iX8 hown hK.1 hP (by omega) (by omega) hM.self rfl 1 (by decide) (hts (.fieldLink RX8 10 "PoreFieldModel" "field" "LPoreFieldModel$Field;") (by decide +kernel)) (fun _ h9 => h9) rfl dX8_well_34 ?_
      refine x_get (ref := RX7) (C := RX7) (T := TX7) (N := 14) (ci := 7) (v := .int (0 : Int32)) hx hb hts iX7 hown hK.1 hP (by omega) (by omega) hF.self rfl 9 (by decide) (hts (.fieldLink RX8 40 "PoreFieldModel$Field" "wellCount" "I") (by decide +kernel)) (fun _ h9 => h9) rfl dX8_well_37 ?_
      refine lv_bipush (v := 6) hx hb dX8_well_40 (by decide) ?_
      refine lv_icmp_ne (tgt := 51) hx hb dX8_well_42 (by decide) (fun _ => ?_) (fun h => absurd h (by decide))
      have hs7 := hF.self
      have h_wells := hF.wells
      obtain ⟨d_row, h_row, k_row⟩ := hF.row 0 (by omega)
      refine lv_aload_n hx hb dX8_well_51 rfl (lv_at hl 0 rfl) ?_
      refine x_get (ref := RX8) (C := RX8) (T := TX8) (N := 8) (ci := 8) (v := .ref (q + 1)) hx hb hts iX8 hown hK.1 hP (by omega) (by omega) hM.self rfl 1 (by decide) (hts (.fieldLink RX8 10 "PoreFieldModel" "field" "LPoreFieldModel$Field;") (by decide +kernel)) (fun _ h9 => h9) rfl dX8_well_52 ?_
      refine x_get (ref := RX7) (C := RX7) (T := TX7) (N := 14) (ci := 7) (v := .ref ((q + 1) + 5)) hx hb hts iX7 hown hK.1 hP (by omega) (by omega) hs7 rfl 4 (by decide) (hts (.fieldLink RX8 67 "PoreFieldModel$Field" "wells" "[[I") (by decide +kernel)) (fun _ h9 => h9) rfl dX8_well_55 ?_
      refine lv_aload_n hx hb dX8_well_58 rfl (lv_at hl 0 rfl) ?_
      refine x_get (ref := RX8) (C := RX8) (T := TX8) (N := 8) (ci := 8) (v := .ref (q + 1)) hx hb hts iX8 hown hK.1 hP (by omega) (by omega) hM.self rfl 1 (by decide) (hts (.fieldLink RX8 10 "PoreFieldModel" "field" "LPoreFieldModel$Field;") (by decide +kernel)) (fun _ h9 => h9) rfl dX8_well_59 ?_
      refine x_get (ref := RX7) (C := RX7) (T := TX7) (N := 14) (ci := 7) (v := .int (0 : Int32)) hx hb hts iX7 hown hK.1 hP (by omega) (by omega) hs7 rfl 9 (by decide) (hts (.fieldLink RX8 40 "PoreFieldModel$Field" "wellCount" "I") (by decide +kernel)) (fun _ h9 => h9) rfl dX8_well_62 ?_
      refine x_aaldA (b := ((q + 1) + 5 + 1 + 0)) hx hb hK.1 hP (by omega) (by omega) 6 h_wells rfl (cl_of_nI (i := 0) rfl (by omega)) (if_pos (by omega)) (vp_in_of_nI (i := 0) rfl (by omega) (by omega)) dX8_well_65 ?_
      refine lv_astore_n (lv' := [(3, .ref ((q + 1) + 5 + 1 + 0)), (0, .ref q), (1, .int x), (2, .int (nI yi))]) hx hb dX8_well_66 rfl hl (by decide) rfl (fun ls hl => ?_)
      refine lv_aload_n hx hb dX8_well_67 rfl (lv_at hl 0 rfl) ?_
      refine lv_iconst (v := 0) hx hb dX8_well_68 (by decide) ?_
      refine lv_iload_n hx hb dX8_well_69 rfl (lv_at hl 2 rfl) ?_
      refine x_iast hx hb hK.1 hP hS (by omega) (by omega) 0 h_row rfl (cl_of_nI (i := 0) rfl (by omega)) (vp_in_of_nI (i := 0) rfl (by omega) (by omega)) dX8_well_70 (fun H locs hP hS => ?_)
      refine x_gen hP (fun v2 e2 hP => ?_)
      have hM : MM cy v2 q 0 5 0 0 0 := by rw [e2]; exact hM.o (by omega) (by omega) (by omega)
      have hB : LB cy v2 q := by rw [e2]; exact hB.o (by omega)
      have h_wells : v2 ((q + 1) + 5) = .inl (cy 6, 6, .inr (.inr (.inr (.inr fun i => if i < 6 then some ((q + 1) + 5 + 1 + i) else none)))) := by rw [e2]; exact (xu_ne (by omega)).trans h_wells
      have h_row : v2 ((q + 1) + 5 + 1 + 0) = .inl (cy 0, 14, .inl (upd d_row 0 x)) := by rw [e2]; exact xu_same _ _ _
      have hs7 : v2 (q + 1) = .inr (7, [.ref ((q + 1) + 1), .ref ((q + 1) + 2), .ref ((q + 1) + 3), .ref ((q + 1) + 4), .ref ((q + 1) + 5), .ref ((q + 1) + 12), .ref ((q + 1) + 13), .ref ((q + 1) + 14), .ref ((q + 1) + 15), .int (0 : Int32), .int (0 : Int32), .int (10 : Int32), .int (300 : Int32), .int (0 : Int32)]) := by rw [e2]; exact (xu_ne (by omega)).trans hs7
      have hfr : fr q 22 w v2 := by rw [e2]; exact hfr.up (by omega) (by omega)
      refine lv_aload_n hx hb dX8_well_71 rfl (lv_at hl 0 rfl) ?_
      refine lv_iconst (v := 1) hx hb dX8_well_72 (by decide) ?_
      refine lv_iload_n hx hb dX8_well_73 rfl (lv_at hl 3 rfl) ?_
      refine x_iast hx hb hK.1 hP hS (by omega) (by omega) 0 h_row rfl (cl_of_nI (i := 1) rfl (by omega)) (vp_in_of_nI (i := 1) rfl (by omega) (by omega)) dX8_well_74 (fun H locs hP hS => ?_)
      refine x_gen hP (fun v3 e3 hP => ?_)
      have hM : MM cy v3 q 0 5 0 0 0 := by rw [e3]; exact hM.o (by omega) (by omega) (by omega)
      have hB : LB cy v3 q := by rw [e3]; exact hB.o (by omega)
      have h_wells : v3 ((q + 1) + 5) = .inl (cy 6, 6, .inr (.inr (.inr (.inr fun i => if i < 6 then some ((q + 1) + 5 + 1 + i) else none)))) := by rw [e3]; exact (xu_ne (by omega)).trans h_wells
      have h_row : v3 ((q + 1) + 5 + 1 + 0) = .inl (cy 0, 14, .inl (upd (upd d_row 0 x) 1 (nI yi))) := by rw [e3]; exact xu_same _ _ _
      have hs7 : v3 (q + 1) = .inr (7, [.ref ((q + 1) + 1), .ref ((q + 1) + 2), .ref ((q + 1) + 3), .ref ((q + 1) + 4), .ref ((q + 1) + 5), .ref ((q + 1) + 12), .ref ((q + 1) + 13), .ref ((q + 1) + 14), .ref ((q + 1) + 15), .int (0 : Int32), .int (0 : Int32), .int (10 : Int32), .int (300 : Int32), .int (0 : Int32)]) := by rw [e3]; exact (xu_ne (by omega)).trans hs7
      have hfr : fr q 22 w v3 := by rw [e3]; exact hfr.up (by omega) (by omega)
      refine lv_aload_n hx hb dX8_well_75 rfl (lv_at hl 0 rfl) ?_
      refine lv_iconst (v := 3) hx hb dX8_well_76 (by decide) ?_
      refine lv_iconst (v := 5) hx hb dX8_well_77 (by decide) ?_
      refine x_iast hx hb hK.1 hP hS (by omega) (by omega) 0 h_row rfl (cl_of_nI (i := 3) rfl (by omega)) (vp_in_of_nI (i := 3) rfl (by omega) (by omega)) dX8_well_78 (fun H locs hP hS => ?_)
      refine x_gen hP (fun v4 e4 hP => ?_)
      have hM : MM cy v4 q 0 5 0 0 0 := by rw [e4]; exact hM.o (by omega) (by omega) (by omega)
      have hB : LB cy v4 q := by rw [e4]; exact hB.o (by omega)
      have h_wells : v4 ((q + 1) + 5) = .inl (cy 6, 6, .inr (.inr (.inr (.inr fun i => if i < 6 then some ((q + 1) + 5 + 1 + i) else none)))) := by rw [e4]; exact (xu_ne (by omega)).trans h_wells
      have h_row : v4 ((q + 1) + 5 + 1 + 0) = .inl (cy 0, 14, .inl (upd (upd (upd d_row 0 x) 1 (nI yi)) 3 (5 : Int32))) := by rw [e4]; exact xu_same _ _ _
      have hs7 : v4 (q + 1) = .inr (7, [.ref ((q + 1) + 1), .ref ((q + 1) + 2), .ref ((q + 1) + 3), .ref ((q + 1) + 4), .ref ((q + 1) + 5), .ref ((q + 1) + 12), .ref ((q + 1) + 13), .ref ((q + 1) + 14), .ref ((q + 1) + 15), .int (0 : Int32), .int (0 : Int32), .int (10 : Int32), .int (300 : Int32), .int (0 : Int32)]) := by rw [e4]; exact (xu_ne (by omega)).trans hs7
      have hfr : fr q 22 w v4 := by rw [e4]; exact hfr.up (by omega) (by omega)
      refine lv_aload_n hx hb dX8_well_79 rfl (lv_at hl 1 rfl) ?_
      refine x_get (ref := RX8) (C := RX8) (T := TX8) (N := 8) (ci := 8) (v := .ref (q + 1)) hx hb hts iX8 hown hK.1 hP (by omega) (by omega) hM.self rfl 1 (by decide) (hts (.fieldLink RX8 10 "PoreFieldModel" "field" "LPoreFieldModel$Field;") (by decide +kernel)) (fun _ h9 => h9) rfl dX8_well_80 ?_
      refine lv_dup hx hb dX8_well_83 rfl ?_
      refine x_get (ref := RX7) (C := RX7) (T := TX7) (N := 14) (ci := 7) (v := .int (0 : Int32)) hx hb hts iX7 hown hK.1 hP (by omega) (by omega) hs7 rfl 9 (by decide) (hts (.fieldLink RX8 40 "PoreFieldModel$Field" "wellCount" "I") (by decide +kernel)) (fun _ h9 => h9) rfl dX8_well_84 ?_
      refine lv_dup_x1 hx hb dX8_well_87 rfl rfl ?_
      refine lv_iconst (v := 1) hx hb dX8_well_88 (by decide) ?_
      refine lv_iadd hx hb dX8_well_89 ?_
      refine x_top (v' := 1) (by decide) ?_
      refine x_put (ty := tyX7 9) (ref := RX7) (C := RX7) (T := TX7) (N := 14) (ci := 7) (v := .int (1 : Int32)) hx hb hts iX7 tyX7 tyX7_ok nmX7 hown hK.1 hP hS (by omega) (by omega) hs7 rfl 9 (by decide) (hts (.fieldLink RX8 40 "PoreFieldModel$Field" "wellCount" "I") (by decide +kernel)) (fun _ h9 => h9) rfl (by decide +kernel) rfl rfl (Nat.le_of_ble_eq_true rfl) dX8_well_90 (fun H locs hP hS => ?_)
      refine x_gen hP (fun v5 e5 hP => ?_)
      have hM : MM cy v5 q 0 5 0 0 0 := by rw [e5]; exact hM.o (by omega) (by omega) (by omega)
      have hB : LB cy v5 q := by rw [e5]; exact hB.o (by omega)
      have h_wells : v5 ((q + 1) + 5) = .inl (cy 6, 6, .inr (.inr (.inr (.inr fun i => if i < 6 then some ((q + 1) + 5 + 1 + i) else none)))) := by rw [e5]; exact (xu_ne (by omega)).trans h_wells
      have h_row : v5 ((q + 1) + 5 + 1 + 0) = .inl (cy 0, 14, .inl (upd (upd (upd d_row 0 x) 1 (nI yi)) 3 (5 : Int32))) := by rw [e5]; exact (xu_ne (by omega)).trans h_row
      have hs7 : v5 (q + 1) = .inr (7, [.ref ((q + 1) + 1), .ref ((q + 1) + 2), .ref ((q + 1) + 3), .ref ((q + 1) + 4), .ref ((q + 1) + 5), .ref ((q + 1) + 12), .ref ((q + 1) + 13), .ref ((q + 1) + 14), .ref ((q + 1) + 15), .int (1 : Int32), .int (0 : Int32), .int (10 : Int32), .int (300 : Int32), .int (0 : Int32)]) := by rw [e5]; exact xu_same _ _ _
      have hfr : fr q 22 w v5 := by rw [e5]; exact hfr.up (by omega) (by omega)
      have eS : r_well x (nI yi) = (0, (0 : Int32)) := by unfold r_well; rw [if_pos c_6, if_pos c_21] <;> first | rfl | decide
      exact W.iret (v := (0 : Int32)) hx hb hr (fun tE ht hW => ⟨⟨(0 : Int32), v5, rfl, by rw [eS]; exact ⟨⟨_, hM.self⟩, fun _ => rfl, hfr⟩, x_at ht hP⟩, hS.F ht⟩) hS.2.2 dX8_well_93
    · refine x_top (v' := (0 : Int32)) (if_neg c_21) ?_
      refine lv_if_ne (tgt := 33) hx hb dX8_well_24 (by decide) (fun h => absurd (by decide) h) (fun _ => ?_)
      refine lv_aload_n hx hb dX8_well_27 rfl (lv_at hl 0 rfl) ?_
      refine lv_iconst (v := 2) hx hb dX8_well_28 (by decide) ?_
      refine x_callx (va_runV (As := [.int (2 : Int32)]) (rest := []) ⟨hx, hb, hml, hown, hts⟩ (c_X8_no l D cy lo n v1 q (by omega) (by omega) 0 hM hB hF (2 : Int32)) (cwV 1 hts gX8_well_X8_no rfl rfl rfl (by decide +kernel) ⟨Nat.le_of_ble_eq_true rfl, Nat.le_of_ble_eq_true rfl⟩) (preV hP hK (x_recv (ci := 8) (q := (RX8, TX8, 8)) hK.1 hP (by omega) (by omega) rfl hM.self)) rfl rfl hl.1 rfl (lv_room (Nat.le_of_ble_eq_true rfl)) dX8_well_29 ⟨Nat.le_of_ble_eq_true rfl, Nat.le_of_ble_eq_true rfl⟩) hS (fun r9 u6 H locs hX hP hS => ?_)
      obtain ⟨rfl, hM, hB, hF, hf9⟩ := hX
      have hfr := hfr.tr hf9 (by omega) (by omega)
      have eS : r_well x (nI yi) = (2, (0 : Int32)) := by unfold r_well; rw [if_pos c_6, if_neg c_21] <;> first | rfl | decide
      exact W.iret (v := (0 : Int32)) hx hb hr (fun tE ht hW => ⟨⟨(0 : Int32), u6, rfl, by rw [eS]; exact ⟨⟨_, hM.self⟩, fun _ => rfl, hfr⟩, x_at ht hP⟩, hS.F ht⟩) hS.2.2 dX8_well_32
  · refine x_top (v' := (0 : Int32)) (if_neg c_6) ?_
    refine lv_if_ne (tgt := 18) hx hb dX8_well_9 (by decide) (fun h => absurd (by decide) h) (fun _ => ?_)
    refine lv_aload_n hx hb dX8_well_12 rfl (lv_at hl 0 rfl) ?_
    refine lv_iconst (v := 1) hx hb dX8_well_13 (by decide) ?_
    refine x_callx (va_runV (As := [.int (1 : Int32)]) (rest := []) ⟨hx, hb, hml, hown, hts⟩ (c_X8_no l D cy lo n v1 q (by omega) (by omega) 0 hM hB hF (1 : Int32)) (cwV 1 hts gX8_well_X8_no rfl rfl rfl (by decide +kernel) ⟨Nat.le_of_ble_eq_true rfl, Nat.le_of_ble_eq_true rfl⟩) (preV hP hK (x_recv (ci := 8) (q := (RX8, TX8, 8)) hK.1 hP (by omega) (by omega) rfl hM.self)) rfl rfl hl.1 rfl (lv_room (Nat.le_of_ble_eq_true rfl)) dX8_well_14 ⟨Nat.le_of_ble_eq_true rfl, Nat.le_of_ble_eq_true rfl⟩) hS (fun r9 u7 H locs hX hP hS => ?_)
    obtain ⟨rfl, hM, hB, hF, hf9⟩ := hX
    have hfr := hfr.tr hf9 (by omega) (by omega)
    have eS : r_well x y = (1, (0 : Int32)) := by unfold r_well; rw [if_neg c_6] <;> first | rfl | decide
    exact W.iret (v := (0 : Int32)) hx hb hr (fun tE ht hW => ⟨⟨(0 : Int32), u7, rfl, by rw [eS]; exact ⟨⟨_, hM.self⟩, fun _ => rfl, hfr⟩, x_at ht hP⟩, hS.F ht⟩) hS.2.2 dX8_well_17

def r_fault (x y _z : Int32) : Int32 × Int32 := if r_beside x y = 0 then (1, 0) else (0, 0)
set_option maxRecDepth 100000 in
set_option maxHeartbeats 1000000 in
/-- fault -/
theorem c_X8_fault (l : Launch) (D : va_G) (cy : Nat → ClassId) (lo n : Nat) (w : Nat → va_E) (q : Nat) (h1 : lo ≤ q) (h2 : q + 22 ≤ lo + n) (th : Int32) (hM : MM cy w q th 5 0 0 0) (hB : LB cy w q) (hF : FM cy w (q + 1) 0 300) (x y z : Int32) (hz : z = 0 ∨ z = 1) : Met l yX8_fault wsX8_fault ({ frames := 3, cells := 0, slots := 0, locals := 63 }) (PcW D cy lo n w [.ref q, .int x, .int y, .int z]) (QR D lo n q w (r_fault x y z)) 0 0 (fun q : Nat => lo ≤ q) := by
  refine Met.ofW (cc := cX8_fault) (maxL := 6) (ret := (some .boolean)) (by decide) rfl ?_
  intro p e s m args below meth c s₁ B hml hv
  obtain ⟨rfl, hP, hK, hS⟩ := x_entry hv
  have hx := B.exec
  have hb := B.bytes
  have hr := B.returns
  have hts := atoms_spec (ws := wsX8_fault) B.pre
  have hown : s.vm.findClass RX8 = some m.cls := findClass_of_methodNamed B.named
  have hlocks := B.notSynchronized
  have iX7 : ∀ w ∈ u_ws RX7 TX7 14, w ∈ wsX8_fault := by decide +kernel
  have iX8 : ∀ w ∈ u_ws RX8 TX8 8, w ∈ wsX8_fault := by decide +kernel
  have hl := lv_entry ([.ref q, .int x, .int y, .int z]) (n := 6) (Nat.le_of_ble_eq_true rfl)
  rw [lg_entry_eq]
  generalize (lg_sl ([.ref q, .int x, .int y, .int z]) ++ List.replicate (6 - (lg_sl ([.ref q, .int x, .int y, .int z])).length) Slot.unset).toArray = ls at hl ⊢
  have hl : lv_has ls 6 [(0, .ref q), (1, .int x), (2, .int y), (3, .int z)] := hl
  have hfr : fr q 22 w w := fr.rf
  refine lv_aload_n hx hb dX8_fault_0 rfl (lv_at hl 0 rfl) ?_
  refine lv_iconst (v := 0) hx hb dX8_fault_1 (by decide) ?_
  refine x_put (ty := tyX8 0) (ref := RX8) (C := RX8) (T := TX8) (N := 8) (ci := 8) (v := .int (0 : Int32)) hx hb hts iX8 tyX8 tyX8_ok nmX8 hown hK.1 hP hS (by omega) (by omega) hM.self rfl 0 (by decide) (hts (.fieldLink RX8 29 "PoreFieldModel" "thrown" "I") (by decide +kernel)) (fun _ h9 => h9) rfl (by decide +kernel) rfl rfl (Nat.le_of_ble_eq_true rfl) dX8_fault_2 (fun H locs hP hS => ?_)
  refine x_gen hP (fun v1 e1 hP => ?_)
  have hF : FM cy v1 (q + 1) 0 300 := by rw [e1]; exact hF.o (by omega)
  have hM : MM cy v1 q 0 5 0 0 0 := by rw [e1]; exact hM.up_self (th' := 0) (pr' := 5) (bk' := 0) (bo' := 0) (bw' := 0)
  have hB : LB cy v1 q := by rw [e1]; exact hB.o (by omega)
  have hfr : fr q 22 w v1 := by rw [e1]; exact hfr.up (by omega) (by omega)
  refine lv_iload_n hx hb dX8_fault_5 rfl (lv_at hl 1 rfl) ?_
  refine lv_iload_n hx hb dX8_fault_6 rfl (lv_at hl 2 rfl) ?_
  refine x_calli (va_runS (As := [.int x, .int y]) (rest := []) ⟨hx, hb, hml, hown, hts⟩ (c_X8_isBeside l D cy lo n v1 x y) (va_cwS 2 hts gX8_fault_X8_isBeside rfl rfl rfl (by decide +kernel) ⟨Nat.le_of_ble_eq_true rfl, Nat.le_of_ble_eq_true rfl⟩) (preS hP hK) rfl rfl hl.1 rfl (lv_room (Nat.le_of_ble_eq_true rfl)) dX8_fault_7 ⟨Nat.le_of_ble_eq_true rfl, Nat.le_of_ble_eq_true rfl⟩) hS (fun H locs hP hS => ?_)
  rcases r_beside_01 x y with c_7 | c_7
  · refine x_top (v' := (0 : Int32)) c_7 ?_
    refine lv_if_ne (tgt := 27) hx hb dX8_fault_10 (by decide) (fun h => absurd (by decide) h) (fun _ => ?_)
    refine lv_aload_n hx hb dX8_fault_13 rfl (lv_at hl 0 rfl) ?_
    refine lv_iconst (v := 1) hx hb dX8_fault_14 (by decide) ?_
    refine x_callx (va_runV (As := [.int (1 : Int32)]) (rest := []) ⟨hx, hb, hml, hown, hts⟩ (c_X8_no l D cy lo n v1 q (by omega) (by omega) 0 hM hB hF (1 : Int32)) (cwV 1 hts gX8_fault_X8_no rfl rfl rfl (by decide +kernel) ⟨Nat.le_of_ble_eq_true rfl, Nat.le_of_ble_eq_true rfl⟩) (preV hP hK (x_recv (ci := 8) (q := (RX8, TX8, 8)) hK.1 hP (by omega) (by omega) rfl hM.self)) rfl rfl hl.1 rfl (lv_room (Nat.le_of_ble_eq_true rfl)) dX8_fault_15 ⟨Nat.le_of_ble_eq_true rfl, Nat.le_of_ble_eq_true rfl⟩) hS (fun r9 u2 H locs hX hP hS => ?_)
    obtain ⟨rfl, hM, hB, hF, hf9⟩ := hX
    have hfr := hfr.tr hf9 (by omega) (by omega)
    refine lv_if_le (tgt := 25) hx hb dX8_fault_18 (by decide) (fun _ => ?_) (fun h => absurd (by decide) h)
    refine lv_iconst (v := 0) hx hb dX8_fault_25 (by decide) ?_
    have eS : r_fault x y z = (1, (0 : Int32)) := by unfold r_fault; rw [if_pos c_7] <;> first | rfl | decide
    exact W.zret (v := (0 : Int32)) hx hb hr rfl (fun tE ht hW => ⟨⟨(0 : Int32), u2, rfl, by rw [eS]; exact ⟨⟨_, hM.self⟩, fun _ => rfl, hfr⟩, x_at ht hP⟩, hS.F ht⟩) hS.2.2 dX8_fault_26
  · refine x_top (v' := (1 : Int32)) c_7 ?_
    have i_7 : 0 ≤ x ∧ x ≤ 15 := by by_cases h9 : 0 ≤ x ∧ x ≤ 15; exact h9; unfold r_beside at c_7; rw [if_neg h9] at c_7; exact absurd c_7 (by decide)
    obtain ⟨xi, h_xi, e_xi⟩ := nI_of2 (n := 15) (by decide) (Int32.not_lt.mpr (Int32.le_trans (by decide) i_7.1)) i_7.2
    subst e_xi
    refine lv_if_ne (tgt := 27) hx hb dX8_fault_10 (by decide) (fun _ => ?_) (fun h => absurd h (by decide))
    have hs7 := hF.self
    obtain ⟨d_east, h_east, k_east⟩ := hF.east
    obtain ⟨d_south, h_south, k_south⟩ := hF.south
    refine lv_iload_n hx hb dX8_fault_27 rfl (lv_at hl 2 rfl) ?_
    refine lv_if_eq (tgt := 41) hx hb dX8_fault_28 (by decide) (fun c_28 => ?_) (fun c_28 => ?_)
    · refine lv_aload_n hx hb dX8_fault_41 rfl (lv_at hl 0 rfl) ?_
      refine x_get (ref := RX8) (C := RX8) (T := TX8) (N := 8) (ci := 8) (v := .ref (q + 1)) hx hb hts iX8 hown hK.1 hP (by omega) (by omega) hM.self rfl 1 (by decide) (hts (.fieldLink RX8 10 "PoreFieldModel" "field" "LPoreFieldModel$Field;") (by decide +kernel)) (fun _ h9 => h9) rfl dX8_fault_42 ?_
      refine x_get (ref := RX7) (C := RX7) (T := TX7) (N := 14) (ci := 7) (v := .ref ((q + 1) + 4)) hx hb hts iX7 hown hK.1 hP (by omega) (by omega) hs7 rfl 3 (by decide) (hts (.fieldLink RX8 64 "PoreFieldModel$Field" "south" "[Z") (by decide +kernel)) (fun _ h9 => h9) rfl dX8_fault_45 ?_
      refine lv_astore (lv' := [(4, .ref ((q + 1) + 4)), (0, .ref q), (1, .int (nI xi)), (2, .int y), (3, .int z)]) hx hb dX8_fault_48 hl (by decide) rfl (fun ls hl => ?_)
      refine lv_aload hx hb dX8_fault_50 (lv_at hl 0 rfl) ?_
      refine lv_iload_n hx hb dX8_fault_52 rfl (lv_at hl 2 rfl) ?_
      refine x_zald hx hb hK.1 hP (by omega) (by omega) 5 h_south rfl (cl_of_nI (i := xi) rfl (by omega)) (vp_in_of_nI (i := xi) rfl (by omega) (by omega)) dX8_fault_53 ?_
      refine x_top (v' := (0 : Int32)) (k_south _ (by omega)) ?_
      refine lv_istore (lv' := [(5, .int (0 : Int32)), (4, .ref ((q + 1) + 4)), (0, .ref q), (1, .int (nI xi)), (2, .int y), (3, .int z)]) hx hb dX8_fault_54 hl (by decide) rfl (fun ls hl => ?_)
      refine lv_aload hx hb dX8_fault_56 (lv_at hl 1 rfl) ?_
      refine lv_iload_n hx hb dX8_fault_58 rfl (lv_at hl 3 rfl) ?_
      refine lv_iload_n hx hb dX8_fault_59 rfl (lv_at hl 5 rfl) ?_
      refine x_zast hx hb hK.1 hP hS (by omega) (by omega) 5 h_south rfl (cl_of_nI (i := xi) rfl (by omega)) hz (vp_in_of_nI (i := xi) rfl (by omega) (by omega)) dX8_fault_60 (fun H locs hP hS => ?_)
      refine x_gen hP (fun v3 e3 hP => ?_)
      have hM : MM cy v3 q 0 5 0 0 0 := by rw [e3]; exact hM.o (by omega) (by omega) (by omega)
      have hB : LB cy v3 q := by rw [e3]; exact hB.o (by omega)
      have h_east : v3 ((q + 1) + 3) = .inl (cy 5, 16, .inl d_east) := by rw [e3]; exact (xu_ne (by omega)).trans h_east
      have h_south : v3 ((q + 1) + 4) = .inl (cy 5, 16, .inl (upd d_south xi z)) := by rw [e3]; exact xu_same _ _ _
      have hs7 : v3 (q + 1) = .inr (7, [.ref ((q + 1) + 1), .ref ((q + 1) + 2), .ref ((q + 1) + 3), .ref ((q + 1) + 4), .ref ((q + 1) + 5), .ref ((q + 1) + 12), .ref ((q + 1) + 13), .ref ((q + 1) + 14), .ref ((q + 1) + 15), .int (0 : Int32), .int (0 : Int32), .int (10 : Int32), .int (300 : Int32), .int (0 : Int32)]) := by rw [e3]; exact (xu_ne (by omega)).trans hs7
      have hfr : fr q 22 w v3 := by rw [e3]; exact hfr.up (by omega) (by omega)
      refine lv_iload hx hb dX8_fault_61 (lv_at hl 0 rfl) ?_
      have eS : r_fault (nI xi) y z = (0, (0 : Int32)) := by unfold r_fault; rw [if_neg (by rw [c_7]; decide)] <;> first | rfl | decide
      exact W.zret (v := (0 : Int32)) hx hb hr rfl (fun tE ht hW => ⟨⟨(0 : Int32), v3, rfl, by rw [eS]; exact ⟨⟨_, hM.self⟩, fun _ => rfl, hfr⟩, x_at ht hP⟩, hS.F ht⟩) hS.2.2 dX8_fault_63
    · refine lv_aload_n hx hb dX8_fault_31 rfl (lv_at hl 0 rfl) ?_
      refine x_get (ref := RX8) (C := RX8) (T := TX8) (N := 8) (ci := 8) (v := .ref (q + 1)) hx hb hts iX8 hown hK.1 hP (by omega) (by omega) hM.self rfl 1 (by decide) (hts (.fieldLink RX8 10 "PoreFieldModel" "field" "LPoreFieldModel$Field;") (by decide +kernel)) (fun _ h9 => h9) rfl dX8_fault_32 ?_
      refine x_get (ref := RX7) (C := RX7) (T := TX7) (N := 14) (ci := 7) (v := .ref ((q + 1) + 3)) hx hb hts iX7 hown hK.1 hP (by omega) (by omega) hs7 rfl 2 (by decide) (hts (.fieldLink RX8 60 "PoreFieldModel$Field" "east" "[Z") (by decide +kernel)) (fun _ h9 => h9) rfl dX8_fault_35 ?_
      refine lv_goto (tgt := 48) hx hb dX8_fault_38 (by decide) ?_
      refine lv_astore (lv' := [(4, .ref ((q + 1) + 3)), (0, .ref q), (1, .int (nI xi)), (2, .int y), (3, .int z)]) hx hb dX8_fault_48 hl (by decide) rfl (fun ls hl => ?_)
      refine lv_aload hx hb dX8_fault_50 (lv_at hl 0 rfl) ?_
      refine lv_iload_n hx hb dX8_fault_52 rfl (lv_at hl 2 rfl) ?_
      refine x_zald hx hb hK.1 hP (by omega) (by omega) 5 h_east rfl (cl_of_nI (i := xi) rfl (by omega)) (vp_in_of_nI (i := xi) rfl (by omega) (by omega)) dX8_fault_53 ?_
      refine x_top (v' := (0 : Int32)) (k_east _ (by omega)) ?_
      refine lv_istore (lv' := [(5, .int (0 : Int32)), (4, .ref ((q + 1) + 3)), (0, .ref q), (1, .int (nI xi)), (2, .int y), (3, .int z)]) hx hb dX8_fault_54 hl (by decide) rfl (fun ls hl => ?_)
      refine lv_aload hx hb dX8_fault_56 (lv_at hl 1 rfl) ?_
      refine lv_iload_n hx hb dX8_fault_58 rfl (lv_at hl 3 rfl) ?_
      refine lv_iload_n hx hb dX8_fault_59 rfl (lv_at hl 5 rfl) ?_
      refine x_zast hx hb hK.1 hP hS (by omega) (by omega) 5 h_east rfl (cl_of_nI (i := xi) rfl (by omega)) hz (vp_in_of_nI (i := xi) rfl (by omega) (by omega)) dX8_fault_60 (fun H locs hP hS => ?_)
      refine x_gen hP (fun v4 e4 hP => ?_)
      have hM : MM cy v4 q 0 5 0 0 0 := by rw [e4]; exact hM.o (by omega) (by omega) (by omega)
      have hB : LB cy v4 q := by rw [e4]; exact hB.o (by omega)
      have h_east : v4 ((q + 1) + 3) = .inl (cy 5, 16, .inl (upd d_east xi z)) := by rw [e4]; exact xu_same _ _ _
      have h_south : v4 ((q + 1) + 4) = .inl (cy 5, 16, .inl d_south) := by rw [e4]; exact (xu_ne (by omega)).trans h_south
      have hs7 : v4 (q + 1) = .inr (7, [.ref ((q + 1) + 1), .ref ((q + 1) + 2), .ref ((q + 1) + 3), .ref ((q + 1) + 4), .ref ((q + 1) + 5), .ref ((q + 1) + 12), .ref ((q + 1) + 13), .ref ((q + 1) + 14), .ref ((q + 1) + 15), .int (0 : Int32), .int (0 : Int32), .int (10 : Int32), .int (300 : Int32), .int (0 : Int32)]) := by rw [e4]; exact (xu_ne (by omega)).trans hs7
      have hfr : fr q 22 w v4 := by rw [e4]; exact hfr.up (by omega) (by omega)
      refine lv_iload hx hb dX8_fault_61 (lv_at hl 0 rfl) ?_
      have eS : r_fault (nI xi) y z = (0, (0 : Int32)) := by unfold r_fault; rw [if_neg (by rw [c_7]; decide)] <;> first | rfl | decide
      exact W.zret (v := (0 : Int32)) hx hb hr rfl (fun tE ht hW => ⟨⟨(0 : Int32), v4, rfl, by rw [eS]; exact ⟨⟨_, hM.self⟩, fun _ => rfl, hfr⟩, x_at ht hP⟩, hS.F ht⟩) hS.2.2 dX8_fault_63
