/-! the public methods of the class, where they throw -/
theorem pwx_0 {cy : Nat → ClassId} {w : Nat → va_E} {o : Nat} {G T P : Mem} : (gw cy (gw cy (hw cy w o P) (o + 50) T) (o + 1) G) o = .inr (6, [.ref (o + 1), .ref (o + 50), .ref (o + 99), .ref (o + 100), .ref (o + 101), .ref (o + 102), .int (P 0 6), .int (P 0 7), .int (P 0 8), .int (P 0 9), .int (P 0 10)]) := (gw_out (by omega)).trans ((gw_out (by omega)).trans hw_0)
theorem bad0 (x : Int32) : x < 0 ∨ 0 ≤ x := by
  by_cases h : x < 0
  · exact Or.inl h
  · exact Or.inr (Int32.not_lt.mp h)
theorem not_in {x a b : Int32} (h : ¬ (a ≤ x ∧ x ≤ b)) : x < a ∨ b < x := by
  by_cases h1 : x < a
  · exact Or.inl h1
  · by_cases h2 : b < x
    · exact Or.inr h2
    · exact absurd ⟨Int32.not_lt.mp h1, Int32.not_lt.mp h2⟩ h
theorem not_ix {x b : Int32} {m : Int32} (hm : ∀ y : Int32, b < y → m ≤ y) (h : ¬ (0 ≤ x ∧ x ≤ b)) : x < 0 ∨ m ≤ x := by
  rcases not_in h with h | h
  · exact Or.inl h
  · exact Or.inr (hm x h)
theorem up15 (y : Int32) (h : (15 : Int32) < y) : 16 ≤ y := Int32.le_iff_toInt_le.mpr (by have := Int32.lt_iff_toInt_lt.mp h; have e1 : (15 : Int32).toInt = 15 := (by decide); have e2 : (16 : Int32).toInt = 16 := (by decide); omega)
theorem up2 (y : Int32) (h : (2 : Int32) < y) : 3 ≤ y := Int32.le_iff_toInt_le.mpr (by have := Int32.lt_iff_toInt_lt.mp h; have e1 : (2 : Int32).toInt = 2 := (by decide); have e2 : (3 : Int32).toInt = 3 := (by decide); omega)
set_option maxRecDepth 100000 in
set_option maxHeartbeats 1000000 in
theorem c_X6_cell_x1 (l : Launch) (hfl : l.stackTraces = false) (D : va_G) (cy : Nat → ClassId) (lo n : Nat) (w : Nat → va_E) (o : Nat) (G T P : Mem) (ho1 : lo ≤ o) (ho2 : o + 118 ≤ lo + n) (hdr : G 0 2 = 0) (x y z za zb : Int32) (hbad : ¬ (0 ≤ x ∧ x ≤ 15)) : vx_Met l yX6_cell wsX6_cell ({ frames := 7, cells := 1, slots := 6, locals := 111 }) (PcX D cy lo n (gw cy (gw cy (hw cy w o P) (o + 50) T) (o + 1) G) [.ref o, .int x, .int y, .int z, .int za, .int zb]) (QNi D lo n) (XCE D lo n (gw cy (gw cy (hw cy w o P) (o + 50) T) (o + 1) G) IOB) 1 6 (fun q : Nat => lo ≤ q) := by
  refine vx_ofW (cc := cX6_cell) (maxL := 7) (ret := (some .int)) (by decide) rfl ?_
  intro p e s m args below meth c s₁ B hml ht hv
  obtain ⟨rfl, hP, hK, hX, hZ, hS⟩ := X_entry hv
  have hx := B.exec
  have hb := B.bytes
  have hr := B.returns
  have hts := atoms_spec (ws := wsX6_cell) B.pre
  have hown : s.vm.findClass RX6 = some m.cls := findClass_of_methodNamed B.named
  have hlocks := B.notSynchronized
  have hl := lv_entry ([.ref o, .int x, .int y, .int z, .int za, .int zb]) (n := 7) (Nat.le_of_ble_eq_true rfl)
  rw [lg_entry_eq]
  generalize (lg_sl ([.ref o, .int x, .int y, .int z, .int za, .int zb]) ++ List.replicate (7 - (lg_sl ([.ref o, .int x, .int y, .int z, .int za, .int zb])).length) Slot.unset).toArray = ls at hl ⊢
  have hl : lv_has ls 7 [(0, .ref o), (1, .int x), (2, .int y), (3, .int z), (4, .int za), (5, .int zb)] := hl
  refine lv_iload_n hx hb dX6_cell_0 rfl (lv_at hl 1 rfl) ?_
  refine lv_bipush (v := 16) hx hb dX6_cell_1 (by decide) ?_
  exact x_xcallv (vx_runS (As := [.int x, .int (16 : Int32)]) (rest := []) ⟨hx, hb, hml, hown, hts⟩ (c_X6_needIndex_x l hfl D cy lo n (gw cy (gw cy (hw cy w o P) (o + 50) T) (o + 1) G) x (16 : Int32) (not_ix up15 hbad)) (va_cwS 2 hts gX6_cell_X6_needIndex rfl rfl rfl (by decide +kernel) ⟨Nat.le_of_ble_eq_true rfl, Nat.le_of_ble_eq_true rfl⟩) (preSX hP hK hX hZ hS) rfl rfl hl.1 rfl (lv_room (Nat.le_of_ble_eq_true rfl)) dX6_cell_3 ⟨Nat.le_of_ble_eq_true rfl, Nat.le_of_ble_eq_true rfl⟩) hS ht hlocks (Nat.le_of_ble_eq_true rfl) (Nat.le_of_ble_eq_true rfl)

set_option maxRecDepth 100000 in
set_option maxHeartbeats 1000000 in
theorem c_X6_cell_x2 (l : Launch) (hfl : l.stackTraces = false) (D : va_G) (cy : Nat → ClassId) (lo n : Nat) (w : Nat → va_E) (o : Nat) (G T P : Mem) (ho1 : lo ≤ o) (ho2 : o + 118 ≤ lo + n) (hdr : G 0 2 = 0) (ce : Nat) (hc : ce < 16) (y z za zb : Int32) (hbad : ¬ ((10 ≤ y ∧ y ≤ 90) ∧ (0 ≤ z ∧ z ≤ 99) ∧ (0 ≤ za ∧ za ≤ 99) ∧ (0 ≤ zb ∧ zb ≤ 99))) : vx_Met l yX6_cell wsX6_cell ({ frames := 7, cells := 1, slots := 6, locals := 112 }) (PcX D cy lo n (gw cy (gw cy (hw cy w o P) (o + 50) T) (o + 1) G) [.ref o, .int (nI ce), .int y, .int z, .int za, .int zb]) (QNi D lo n) (XCE D lo n (gw cy (gw cy (hw cy w o P) (o + 50) T) (o + 1) G) IAE) 1 6 (fun q : Nat => lo ≤ q) := by
  refine vx_ofW (cc := cX6_cell) (maxL := 7) (ret := (some .int)) (by decide) rfl ?_
  intro p e s m args below meth c s₁ B hml ht hv
  obtain ⟨rfl, hP, hK, hX, hZ, hS⟩ := X_entry hv
  have hx := B.exec
  have hb := B.bytes
  have hr := B.returns
  have hts := atoms_spec (ws := wsX6_cell) B.pre
  have hown : s.vm.findClass RX6 = some m.cls := findClass_of_methodNamed B.named
  have hlocks := B.notSynchronized
  have hl := lv_entry ([.ref o, .int (nI ce), .int y, .int z, .int za, .int zb]) (n := 7) (Nat.le_of_ble_eq_true rfl)
  rw [lg_entry_eq]
  generalize (lg_sl ([.ref o, .int (nI ce), .int y, .int z, .int za, .int zb]) ++ List.replicate (7 - (lg_sl ([.ref o, .int (nI ce), .int y, .int z, .int za, .int zb])).length) Slot.unset).toArray = ls at hl ⊢
  have hl : lv_has ls 7 [(0, .ref o), (1, .int (nI ce)), (2, .int y), (3, .int z), (4, .int za), (5, .int zb)] := hl
  refine lv_iload_n hx hb dX6_cell_0 rfl (lv_at hl 1 rfl) ?_
  refine lv_bipush (v := 16) hx hb dX6_cell_1 (by decide) ?_
  refine x_callv (va_runS (As := [.int (nI ce), .int (16 : Int32)]) (rest := []) ⟨hx, hb, hml, hown, hts⟩ (c_X6_needIndex l D cy lo n (gw cy (gw cy (hw cy w o P) (o + 50) T) (o + 1) G) ce 16 (by omega) (by omega) (nI ce) (16 : Int32) rfl rfl) (va_cwS 2 hts gX6_cell_X6_needIndex rfl rfl rfl (by decide +kernel) ⟨Nat.le_of_ble_eq_true rfl, Nat.le_of_ble_eq_true rfl⟩) (preS hP hK) rfl rfl hl.1 rfl (lv_room (Nat.le_of_ble_eq_true rfl)) dX6_cell_3 ⟨Nat.le_of_ble_eq_true rfl, Nat.le_of_ble_eq_true rfl⟩) hS (fun H locs hP hS => ?_)
  refine lv_iload_n hx hb dX6_cell_6 rfl (lv_at hl 2 rfl) ?_
  refine lv_bipush (v := 10) hx hb dX6_cell_7 (by decide) ?_
  refine lv_bipush (v := 90) hx hb dX6_cell_9 (by decide) ?_
  by_cases c_11 : (10 : Int32) ≤ y ∧ y ≤ (90 : Int32)
  · refine x_callv (va_runS (As := [.int y, .int (10 : Int32), .int (90 : Int32)]) (rest := []) ⟨hx, hb, hml, hown, hts⟩ (c_X6_needWithin l D cy lo n (gw cy (gw cy (hw cy w o P) (o + 50) T) (o + 1) G) y (10 : Int32) (90 : Int32) c_11.1 c_11.2) (va_cwS 3 hts gX6_cell_X6_needWithin rfl rfl rfl (by decide +kernel) ⟨Nat.le_of_ble_eq_true rfl, Nat.le_of_ble_eq_true rfl⟩) (preS hP hK) rfl rfl hl.1 rfl (lv_room (Nat.le_of_ble_eq_true rfl)) dX6_cell_11 ⟨Nat.le_of_ble_eq_true rfl, Nat.le_of_ble_eq_true rfl⟩) hS (fun H locs hP hS => ?_)
    refine lv_iload_n hx hb dX6_cell_14 rfl (lv_at hl 3 rfl) ?_
    refine lv_iconst (v := 0) hx hb dX6_cell_15 (by decide) ?_
    refine lv_bipush (v := 99) hx hb dX6_cell_16 (by decide) ?_
    by_cases c_18 : (0 : Int32) ≤ z ∧ z ≤ (99 : Int32)
    · refine x_callv (va_runS (As := [.int z, .int (0 : Int32), .int (99 : Int32)]) (rest := []) ⟨hx, hb, hml, hown, hts⟩ (c_X6_needWithin l D cy lo n (gw cy (gw cy (hw cy w o P) (o + 50) T) (o + 1) G) z (0 : Int32) (99 : Int32) c_18.1 c_18.2) (va_cwS 3 hts gX6_cell_X6_needWithin rfl rfl rfl (by decide +kernel) ⟨Nat.le_of_ble_eq_true rfl, Nat.le_of_ble_eq_true rfl⟩) (preS hP hK) rfl rfl hl.1 rfl (lv_room (Nat.le_of_ble_eq_true rfl)) dX6_cell_18 ⟨Nat.le_of_ble_eq_true rfl, Nat.le_of_ble_eq_true rfl⟩) hS (fun H locs hP hS => ?_)
      refine lv_iload hx hb dX6_cell_21 (lv_at hl 4 rfl) ?_
      refine lv_iconst (v := 0) hx hb dX6_cell_23 (by decide) ?_
      refine lv_bipush (v := 99) hx hb dX6_cell_24 (by decide) ?_
      by_cases c_26 : (0 : Int32) ≤ za ∧ za ≤ (99 : Int32)
      · refine x_callv (va_runS (As := [.int za, .int (0 : Int32), .int (99 : Int32)]) (rest := []) ⟨hx, hb, hml, hown, hts⟩ (c_X6_needWithin l D cy lo n (gw cy (gw cy (hw cy w o P) (o + 50) T) (o + 1) G) za (0 : Int32) (99 : Int32) c_26.1 c_26.2) (va_cwS 3 hts gX6_cell_X6_needWithin rfl rfl rfl (by decide +kernel) ⟨Nat.le_of_ble_eq_true rfl, Nat.le_of_ble_eq_true rfl⟩) (preS hP hK) rfl rfl hl.1 rfl (lv_room (Nat.le_of_ble_eq_true rfl)) dX6_cell_26 ⟨Nat.le_of_ble_eq_true rfl, Nat.le_of_ble_eq_true rfl⟩) hS (fun H locs hP hS => ?_)
        refine lv_iload hx hb dX6_cell_29 (lv_at hl 5 rfl) ?_
        refine lv_iconst (v := 0) hx hb dX6_cell_31 (by decide) ?_
        refine lv_bipush (v := 99) hx hb dX6_cell_32 (by decide) ?_
        by_cases c_34 : (0 : Int32) ≤ zb ∧ zb ≤ (99 : Int32)
        · exact (hbad ⟨c_11, c_18, c_26, c_34⟩).elim
        · exact x_xcallv (vx_runS (As := [.int zb, .int (0 : Int32), .int (99 : Int32)]) (rest := []) ⟨hx, hb, hml, hown, hts⟩ (c_X6_needWithin_x l hfl D cy lo n (gw cy (gw cy (hw cy w o P) (o + 50) T) (o + 1) G) zb (0 : Int32) (99 : Int32) (not_in c_34)) (va_cwS 3 hts gX6_cell_X6_needWithin rfl rfl rfl (by decide +kernel) ⟨Nat.le_of_ble_eq_true rfl, Nat.le_of_ble_eq_true rfl⟩) (preSX hP hK hX hZ hS) rfl rfl hl.1 rfl (lv_room (Nat.le_of_ble_eq_true rfl)) dX6_cell_34 ⟨Nat.le_of_ble_eq_true rfl, Nat.le_of_ble_eq_true rfl⟩) hS ht hlocks (Nat.le_of_ble_eq_true rfl) (Nat.le_of_ble_eq_true rfl)
      · exact x_xcallv (vx_runS (As := [.int za, .int (0 : Int32), .int (99 : Int32)]) (rest := []) ⟨hx, hb, hml, hown, hts⟩ (c_X6_needWithin_x l hfl D cy lo n (gw cy (gw cy (hw cy w o P) (o + 50) T) (o + 1) G) za (0 : Int32) (99 : Int32) (not_in c_26)) (va_cwS 3 hts gX6_cell_X6_needWithin rfl rfl rfl (by decide +kernel) ⟨Nat.le_of_ble_eq_true rfl, Nat.le_of_ble_eq_true rfl⟩) (preSX hP hK hX hZ hS) rfl rfl hl.1 rfl (lv_room (Nat.le_of_ble_eq_true rfl)) dX6_cell_26 ⟨Nat.le_of_ble_eq_true rfl, Nat.le_of_ble_eq_true rfl⟩) hS ht hlocks (Nat.le_of_ble_eq_true rfl) (Nat.le_of_ble_eq_true rfl)
    · exact x_xcallv (vx_runS (As := [.int z, .int (0 : Int32), .int (99 : Int32)]) (rest := []) ⟨hx, hb, hml, hown, hts⟩ (c_X6_needWithin_x l hfl D cy lo n (gw cy (gw cy (hw cy w o P) (o + 50) T) (o + 1) G) z (0 : Int32) (99 : Int32) (not_in c_18)) (va_cwS 3 hts gX6_cell_X6_needWithin rfl rfl rfl (by decide +kernel) ⟨Nat.le_of_ble_eq_true rfl, Nat.le_of_ble_eq_true rfl⟩) (preSX hP hK hX hZ hS) rfl rfl hl.1 rfl (lv_room (Nat.le_of_ble_eq_true rfl)) dX6_cell_18 ⟨Nat.le_of_ble_eq_true rfl, Nat.le_of_ble_eq_true rfl⟩) hS ht hlocks (Nat.le_of_ble_eq_true rfl) (Nat.le_of_ble_eq_true rfl)
  · exact x_xcallv (vx_runS (As := [.int y, .int (10 : Int32), .int (90 : Int32)]) (rest := []) ⟨hx, hb, hml, hown, hts⟩ (c_X6_needWithin_x l hfl D cy lo n (gw cy (gw cy (hw cy w o P) (o + 50) T) (o + 1) G) y (10 : Int32) (90 : Int32) (not_in c_11)) (va_cwS 3 hts gX6_cell_X6_needWithin rfl rfl rfl (by decide +kernel) ⟨Nat.le_of_ble_eq_true rfl, Nat.le_of_ble_eq_true rfl⟩) (preSX hP hK hX hZ hS) rfl rfl hl.1 rfl (lv_room (Nat.le_of_ble_eq_true rfl)) dX6_cell_11 ⟨Nat.le_of_ble_eq_true rfl, Nat.le_of_ble_eq_true rfl⟩) hS ht hlocks (Nat.le_of_ble_eq_true rfl) (Nat.le_of_ble_eq_true rfl)

set_option maxRecDepth 100000 in
set_option maxHeartbeats 1000000 in
theorem c_X6_fault_x1 (l : Launch) (hfl : l.stackTraces = false) (D : va_G) (cy : Nat → ClassId) (lo n : Nat) (w : Nat → va_E) (o : Nat) (G T P : Mem) (ho1 : lo ≤ o) (ho2 : o + 118 ≤ lo + n) (hdr : G 0 2 = 0) (x y z : Int32) (hbad : ¬ (0 ≤ x ∧ x ≤ 15)) : vx_Met l yX6_fault wsX6_fault ({ frames := 8, cells := 1, slots := 6, locals := 132 }) (PcX D cy lo n (gw cy (gw cy (hw cy w o P) (o + 50) T) (o + 1) G) [.ref o, .int x, .int y, .int z]) (QNi D lo n) (XCE D lo n (gw cy (gw cy (hw cy w o P) (o + 50) T) (o + 1) G) IOB) 1 6 (fun q : Nat => lo ≤ q) := by
  refine vx_ofW (cc := cX6_fault) (maxL := 6) (ret := (some .boolean)) (by decide) rfl ?_
  intro p e s m args below meth c s₁ B hml ht hv
  obtain ⟨rfl, hP, hK, hX, hZ, hS⟩ := X_entry hv
  have hx := B.exec
  have hb := B.bytes
  have hr := B.returns
  have hts := atoms_spec (ws := wsX6_fault) B.pre
  have hown : s.vm.findClass RX6 = some m.cls := findClass_of_methodNamed B.named
  have hlocks := B.notSynchronized
  have hl := lv_entry ([.ref o, .int x, .int y, .int z]) (n := 6) (Nat.le_of_ble_eq_true rfl)
  rw [lg_entry_eq]
  generalize (lg_sl ([.ref o, .int x, .int y, .int z]) ++ List.replicate (6 - (lg_sl ([.ref o, .int x, .int y, .int z])).length) Slot.unset).toArray = ls at hl ⊢
  have hl : lv_has ls 6 [(0, .ref o), (1, .int x), (2, .int y), (3, .int z)] := hl
  refine lv_iload_n hx hb dX6_fault_0 rfl (lv_at hl 1 rfl) ?_
  refine lv_iload_n hx hb dX6_fault_1 rfl (lv_at hl 2 rfl) ?_
  exact x_xcallv (vx_runS (As := [.int x, .int y]) (rest := []) ⟨hx, hb, hml, hown, hts⟩ (c_X6_needNeighbour_x1 l hfl D cy lo n (gw cy (gw cy (hw cy w o P) (o + 50) T) (o + 1) G) x y (not_ix up15 hbad)) (va_cwS 2 hts gX6_fault_X6_needNeighbour rfl rfl rfl (by decide +kernel) ⟨Nat.le_of_ble_eq_true rfl, Nat.le_of_ble_eq_true rfl⟩) (preSX hP hK hX hZ hS) rfl rfl hl.1 rfl (lv_room (Nat.le_of_ble_eq_true rfl)) dX6_fault_2 ⟨Nat.le_of_ble_eq_true rfl, Nat.le_of_ble_eq_true rfl⟩) hS ht hlocks (Nat.le_of_ble_eq_true rfl) (Nat.le_of_ble_eq_true rfl)

set_option maxRecDepth 100000 in
set_option maxHeartbeats 1000000 in
theorem c_X6_fault_x2 (l : Launch) (hfl : l.stackTraces = false) (D : va_G) (cy : Nat → ClassId) (lo n : Nat) (w : Nat → va_E) (o : Nat) (G T P : Mem) (ho1 : lo ≤ o) (ho2 : o + 118 ≤ lo + n) (hdr : G 0 2 = 0) (ce : Nat) (hc : ce < 16) (y z : Int32) (hbad : m_nb ce y = -1) : vx_Met l yX6_fault wsX6_fault ({ frames := 7, cells := 1, slots := 6, locals := 111 }) (PcX D cy lo n (gw cy (gw cy (hw cy w o P) (o + 50) T) (o + 1) G) [.ref o, .int (nI ce), .int y, .int z]) (QNi D lo n) (XCE D lo n (gw cy (gw cy (hw cy w o P) (o + 50) T) (o + 1) G) IOB) 1 6 (fun q : Nat => lo ≤ q) := by
  refine vx_ofW (cc := cX6_fault) (maxL := 6) (ret := (some .boolean)) (by decide) rfl ?_
  intro p e s m args below meth c s₁ B hml ht hv
  obtain ⟨rfl, hP, hK, hX, hZ, hS⟩ := X_entry hv
  have hx := B.exec
  have hb := B.bytes
  have hr := B.returns
  have hts := atoms_spec (ws := wsX6_fault) B.pre
  have hown : s.vm.findClass RX6 = some m.cls := findClass_of_methodNamed B.named
  have hlocks := B.notSynchronized
  have hl := lv_entry ([.ref o, .int (nI ce), .int y, .int z]) (n := 6) (Nat.le_of_ble_eq_true rfl)
  rw [lg_entry_eq]
  generalize (lg_sl ([.ref o, .int (nI ce), .int y, .int z]) ++ List.replicate (6 - (lg_sl ([.ref o, .int (nI ce), .int y, .int z])).length) Slot.unset).toArray = ls at hl ⊢
  have hl : lv_has ls 6 [(0, .ref o), (1, .int (nI ce)), (2, .int y), (3, .int z)] := hl
  refine lv_iload_n hx hb dX6_fault_0 rfl (lv_at hl 1 rfl) ?_
  refine lv_iload_n hx hb dX6_fault_1 rfl (lv_at hl 2 rfl) ?_
  exact x_xcallv (vx_runS (As := [.int (nI ce), .int y]) (rest := []) ⟨hx, hb, hml, hown, hts⟩ (c_X6_needNeighbour_x2 l hfl D cy lo n (gw cy (gw cy (hw cy w o P) (o + 50) T) (o + 1) G) ce (by omega) y hbad) (va_cwS 2 hts gX6_fault_X6_needNeighbour rfl rfl rfl (by decide +kernel) ⟨Nat.le_of_ble_eq_true rfl, Nat.le_of_ble_eq_true rfl⟩) (preSX hP hK hX hZ hS) rfl rfl hl.1 rfl (lv_room (Nat.le_of_ble_eq_true rfl)) dX6_fault_2 ⟨Nat.le_of_ble_eq_true rfl, Nat.le_of_ble_eq_true rfl⟩) hS ht hlocks (Nat.le_of_ble_eq_true rfl) (Nat.le_of_ble_eq_true rfl)

set_option maxRecDepth 100000 in
set_option maxHeartbeats 1000000 in
theorem c_X6_well_x1 (l : Launch) (hfl : l.stackTraces = false) (D : va_G) (cy : Nat → ClassId) (lo n : Nat) (w : Nat → va_E) (o : Nat) (G T P : Mem) (ho1 : lo ≤ o) (ho2 : o + 118 ≤ lo + n) (hdr : G 0 2 = 0) (x y : Int32) (hbad : ¬ (0 ≤ y ∧ y ≤ 15)) : vx_Met l yX6_well wsX6_well ({ frames := 7, cells := 1, slots := 6, locals := 111 }) (PcX D cy lo n (gw cy (gw cy (hw cy w o P) (o + 50) T) (o + 1) G) [.ref o, .int x, .int y]) (QNi D lo n) (XCE D lo n (gw cy (gw cy (hw cy w o P) (o + 50) T) (o + 1) G) IOB) 1 6 (fun q : Nat => lo ≤ q) := by
  refine vx_ofW (cc := cX6_well) (maxL := 4) (ret := (some .int)) (by decide) rfl ?_
  intro p e s m args below meth c s₁ B hml ht hv
  obtain ⟨rfl, hP, hK, hX, hZ, hS⟩ := X_entry hv
  have hx := B.exec
  have hb := B.bytes
  have hr := B.returns
  have hts := atoms_spec (ws := wsX6_well) B.pre
  have hown : s.vm.findClass RX6 = some m.cls := findClass_of_methodNamed B.named
  have hlocks := B.notSynchronized
  have hl := lv_entry ([.ref o, .int x, .int y]) (n := 4) (Nat.le_of_ble_eq_true rfl)
  rw [lg_entry_eq]
  generalize (lg_sl ([.ref o, .int x, .int y]) ++ List.replicate (4 - (lg_sl ([.ref o, .int x, .int y])).length) Slot.unset).toArray = ls at hl ⊢
  have hl : lv_has ls 4 [(0, .ref o), (1, .int x), (2, .int y)] := hl
  refine lv_iload_n hx hb dX6_well_0 rfl (lv_at hl 2 rfl) ?_
  refine lv_bipush (v := 16) hx hb dX6_well_1 (by decide) ?_
  exact x_xcallv (vx_runS (As := [.int y, .int (16 : Int32)]) (rest := []) ⟨hx, hb, hml, hown, hts⟩ (c_X6_needIndex_x l hfl D cy lo n (gw cy (gw cy (hw cy w o P) (o + 50) T) (o + 1) G) y (16 : Int32) (not_ix up15 hbad)) (va_cwS 2 hts gX6_well_X6_needIndex rfl rfl rfl (by decide +kernel) ⟨Nat.le_of_ble_eq_true rfl, Nat.le_of_ble_eq_true rfl⟩) (preSX hP hK hX hZ hS) rfl rfl hl.1 rfl (lv_room (Nat.le_of_ble_eq_true rfl)) dX6_well_3 ⟨Nat.le_of_ble_eq_true rfl, Nat.le_of_ble_eq_true rfl⟩) hS ht hlocks (Nat.le_of_ble_eq_true rfl) (Nat.le_of_ble_eq_true rfl)

set_option maxRecDepth 100000 in
set_option maxHeartbeats 1000000 in
theorem c_X6_well_x2 (l : Launch) (hfl : l.stackTraces = false) (D : va_G) (cy : Nat → ClassId) (lo n : Nat) (w : Nat → va_E) (o : Nat) (G T P : Mem) (ho1 : lo ≤ o) (ho2 : o + 118 ≤ lo + n) (hdr : G 0 2 = 0) (ce : Nat) (hc : ce < 16) (x : Int32) (hbad : ¬ (0 ≤ x ∧ x ≤ 2)) : vx_Met l yX6_well wsX6_well ({ frames := 7, cells := 1, slots := 6, locals := 112 }) (PcX D cy lo n (gw cy (gw cy (hw cy w o P) (o + 50) T) (o + 1) G) [.ref o, .int x, .int (nI ce)]) (QNi D lo n) (XCE D lo n (gw cy (gw cy (hw cy w o P) (o + 50) T) (o + 1) G) IAE) 1 6 (fun q : Nat => lo ≤ q) := by
  refine vx_ofW (cc := cX6_well) (maxL := 4) (ret := (some .int)) (by decide) rfl ?_
  intro p e s m args below meth c s₁ B hml ht hv
  obtain ⟨rfl, hP, hK, hX, hZ, hS⟩ := X_entry hv
  have hx := B.exec
  have hb := B.bytes
  have hr := B.returns
  have hts := atoms_spec (ws := wsX6_well) B.pre
  have hown : s.vm.findClass RX6 = some m.cls := findClass_of_methodNamed B.named
  have hlocks := B.notSynchronized
  have hl := lv_entry ([.ref o, .int x, .int (nI ce)]) (n := 4) (Nat.le_of_ble_eq_true rfl)
  rw [lg_entry_eq]
  generalize (lg_sl ([.ref o, .int x, .int (nI ce)]) ++ List.replicate (4 - (lg_sl ([.ref o, .int x, .int (nI ce)])).length) Slot.unset).toArray = ls at hl ⊢
  have hl : lv_has ls 4 [(0, .ref o), (1, .int x), (2, .int (nI ce))] := hl
  refine lv_iload_n hx hb dX6_well_0 rfl (lv_at hl 2 rfl) ?_
  refine lv_bipush (v := 16) hx hb dX6_well_1 (by decide) ?_
  refine x_callv (va_runS (As := [.int (nI ce), .int (16 : Int32)]) (rest := []) ⟨hx, hb, hml, hown, hts⟩ (c_X6_needIndex l D cy lo n (gw cy (gw cy (hw cy w o P) (o + 50) T) (o + 1) G) ce 16 (by omega) (by omega) (nI ce) (16 : Int32) rfl rfl) (va_cwS 2 hts gX6_well_X6_needIndex rfl rfl rfl (by decide +kernel) ⟨Nat.le_of_ble_eq_true rfl, Nat.le_of_ble_eq_true rfl⟩) (preS hP hK) rfl rfl hl.1 rfl (lv_room (Nat.le_of_ble_eq_true rfl)) dX6_well_3 ⟨Nat.le_of_ble_eq_true rfl, Nat.le_of_ble_eq_true rfl⟩) hS (fun H locs hP hS => ?_)
  refine lv_iload_n hx hb dX6_well_6 rfl (lv_at hl 1 rfl) ?_
  refine lv_iconst (v := 0) hx hb dX6_well_7 (by decide) ?_
  refine lv_iconst (v := 2) hx hb dX6_well_8 (by decide) ?_
  exact x_xcallv (vx_runS (As := [.int x, .int (0 : Int32), .int (2 : Int32)]) (rest := []) ⟨hx, hb, hml, hown, hts⟩ (c_X6_needWithin_x l hfl D cy lo n (gw cy (gw cy (hw cy w o P) (o + 50) T) (o + 1) G) x (0 : Int32) (2 : Int32) (not_in hbad)) (va_cwS 3 hts gX6_well_X6_needWithin rfl rfl rfl (by decide +kernel) ⟨Nat.le_of_ble_eq_true rfl, Nat.le_of_ble_eq_true rfl⟩) (preSX hP hK hX hZ hS) rfl rfl hl.1 rfl (lv_room (Nat.le_of_ble_eq_true rfl)) dX6_well_9 ⟨Nat.le_of_ble_eq_true rfl, Nat.le_of_ble_eq_true rfl⟩) hS ht hlocks (Nat.le_of_ble_eq_true rfl) (Nat.le_of_ble_eq_true rfl)

set_option maxRecDepth 100000 in
set_option maxHeartbeats 1000000 in
theorem c_X6_choke_x1 (l : Launch) (hfl : l.stackTraces = false) (D : va_G) (cy : Nat → ClassId) (lo n : Nat) (w : Nat → va_E) (o : Nat) (G T P : Mem) (ho1 : lo ≤ o) (ho2 : o + 118 ≤ lo + n) (hdr : G 0 2 = 0) (x y : Int32) : vx_Met l yX6_choke wsX6_choke ({ frames := 7, cells := 1, slots := 6, locals := 111 }) (PcX D cy lo n (gw cy (gw cy (hw cy w o P) (o + 50) T) (o + 1) G) [.ref o, .int x, .int y]) (QNi D lo n) (XCE D lo n (gw cy (gw cy (hw cy w o P) (o + 50) T) (o + 1) G) IOB) 1 6 (fun q : Nat => lo ≤ q) := by
  refine vx_ofW (cc := cX6_choke) (maxL := 4) (ret := (some .int)) (by decide) rfl ?_
  intro p e s m args below meth c s₁ B hml ht hv
  obtain ⟨rfl, hP, hK, hX, hZ, hS⟩ := X_entry hv
  have hx := B.exec
  have hb := B.bytes
  have hr := B.returns
  have hts := atoms_spec (ws := wsX6_choke) B.pre
  have hown : s.vm.findClass RX6 = some m.cls := findClass_of_methodNamed B.named
  have hlocks := B.notSynchronized
  have iX2 : ∀ w ∈ u_ws RX2 TX2 12, w ∈ wsX6_choke := by decide +kernel
  have iX6 : ∀ w ∈ u_ws RX6 TX6 11, w ∈ wsX6_choke := by decide +kernel
  have hl := lv_entry ([.ref o, .int x, .int y]) (n := 4) (Nat.le_of_ble_eq_true rfl)
  rw [lg_entry_eq]
  generalize (lg_sl ([.ref o, .int x, .int y]) ++ List.replicate (4 - (lg_sl ([.ref o, .int x, .int y])).length) Slot.unset).toArray = ls at hl ⊢
  have hl : lv_has ls 4 [(0, .ref o), (1, .int x), (2, .int y)] := hl
  refine lv_iload_n hx hb dX6_choke_0 rfl (lv_at hl 1 rfl) ?_
  refine lv_aload_n hx hb dX6_choke_1 rfl (lv_at hl 0 rfl) ?_
  refine x_get (ref := RX6) (C := RX6) (T := TX6) (N := 11) (ci := 6) (v := .ref (o + 1)) hx hb hts iX6 hown hK.1 hP (by omega) (by omega) pwx_0 rfl 0 (by decide) (hts (.fieldLink RX6 10 "PoreField" "ground" "LPoreField$Ground;") (by decide +kernel)) (fun _ h9 => h9) rfl dX6_choke_2 ?_
  refine x_get (ref := RX2) (C := RX2) (T := TX2) (N := 12) (ci := 2) (v := .int (G 0 2)) hx hb hts iX2 hown hK.1 hP (by omega) (by omega) gw_0 rfl 2 (by decide) (hts (.fieldLink RX6 87 "PoreField$Ground" "drilled" "I") (by decide +kernel)) (fun _ h9 => h9) rfl dX6_choke_5 ?_
  refine x_top (v' := (0 : Int32)) hdr ?_
  exact x_xcallv (vx_runS (As := [.int x, .int (0 : Int32)]) (rest := []) ⟨hx, hb, hml, hown, hts⟩ (c_X6_needIndex_x l hfl D cy lo n (gw cy (gw cy (hw cy w o P) (o + 50) T) (o + 1) G) x (0 : Int32) (bad0 _)) (va_cwS 2 hts gX6_choke_X6_needIndex rfl rfl rfl (by decide +kernel) ⟨Nat.le_of_ble_eq_true rfl, Nat.le_of_ble_eq_true rfl⟩) (preSX hP hK hX hZ hS) rfl rfl hl.1 rfl (lv_room (Nat.le_of_ble_eq_true rfl)) dX6_choke_8 ⟨Nat.le_of_ble_eq_true rfl, Nat.le_of_ble_eq_true rfl⟩) hS ht hlocks (Nat.le_of_ble_eq_true rfl) (Nat.le_of_ble_eq_true rfl)

set_option maxRecDepth 100000 in
set_option maxHeartbeats 1000000 in
theorem c_X6_rank_x1 (l : Launch) (hfl : l.stackTraces = false) (D : va_G) (cy : Nat → ClassId) (lo n : Nat) (w : Nat → va_E) (o : Nat) (G T P : Mem) (ho1 : lo ≤ o) (ho2 : o + 118 ≤ lo + n) (hdr : G 0 2 = 0) (x y : Int32) : vx_Met l yX6_rank wsX6_rank ({ frames := 7, cells := 1, slots := 6, locals := 111 }) (PcX D cy lo n (gw cy (gw cy (hw cy w o P) (o + 50) T) (o + 1) G) [.ref o, .int x, .int y]) (QNi D lo n) (XCE D lo n (gw cy (gw cy (hw cy w o P) (o + 50) T) (o + 1) G) IOB) 1 6 (fun q : Nat => lo ≤ q) := by
  refine vx_ofW (cc := cX6_rank) (maxL := 4) (ret := (some .int)) (by decide) rfl ?_
  intro p e s m args below meth c s₁ B hml ht hv
  obtain ⟨rfl, hP, hK, hX, hZ, hS⟩ := X_entry hv
  have hx := B.exec
  have hb := B.bytes
  have hr := B.returns
  have hts := atoms_spec (ws := wsX6_rank) B.pre
  have hown : s.vm.findClass RX6 = some m.cls := findClass_of_methodNamed B.named
  have hlocks := B.notSynchronized
  have iX2 : ∀ w ∈ u_ws RX2 TX2 12, w ∈ wsX6_rank := by decide +kernel
  have iX6 : ∀ w ∈ u_ws RX6 TX6 11, w ∈ wsX6_rank := by decide +kernel
  have hl := lv_entry ([.ref o, .int x, .int y]) (n := 4) (Nat.le_of_ble_eq_true rfl)
  rw [lg_entry_eq]
  generalize (lg_sl ([.ref o, .int x, .int y]) ++ List.replicate (4 - (lg_sl ([.ref o, .int x, .int y])).length) Slot.unset).toArray = ls at hl ⊢
  have hl : lv_has ls 4 [(0, .ref o), (1, .int x), (2, .int y)] := hl
  refine lv_iload_n hx hb dX6_rank_0 rfl (lv_at hl 1 rfl) ?_
  refine lv_aload_n hx hb dX6_rank_1 rfl (lv_at hl 0 rfl) ?_
  refine x_get (ref := RX6) (C := RX6) (T := TX6) (N := 11) (ci := 6) (v := .ref (o + 1)) hx hb hts iX6 hown hK.1 hP (by omega) (by omega) pwx_0 rfl 0 (by decide) (hts (.fieldLink RX6 10 "PoreField" "ground" "LPoreField$Ground;") (by decide +kernel)) (fun _ h9 => h9) rfl dX6_rank_2 ?_
  refine x_get (ref := RX2) (C := RX2) (T := TX2) (N := 12) (ci := 2) (v := .int (G 0 2)) hx hb hts iX2 hown hK.1 hP (by omega) (by omega) gw_0 rfl 2 (by decide) (hts (.fieldLink RX6 87 "PoreField$Ground" "drilled" "I") (by decide +kernel)) (fun _ h9 => h9) rfl dX6_rank_5 ?_
  refine x_top (v' := (0 : Int32)) hdr ?_
  exact x_xcallv (vx_runS (As := [.int x, .int (0 : Int32)]) (rest := []) ⟨hx, hb, hml, hown, hts⟩ (c_X6_needIndex_x l hfl D cy lo n (gw cy (gw cy (hw cy w o P) (o + 50) T) (o + 1) G) x (0 : Int32) (bad0 _)) (va_cwS 2 hts gX6_rank_X6_needIndex rfl rfl rfl (by decide +kernel) ⟨Nat.le_of_ble_eq_true rfl, Nat.le_of_ble_eq_true rfl⟩) (preSX hP hK hX hZ hS) rfl rfl hl.1 rfl (lv_room (Nat.le_of_ble_eq_true rfl)) dX6_rank_8 ⟨Nat.le_of_ble_eq_true rfl, Nat.le_of_ble_eq_true rfl⟩) hS ht hlocks (Nat.le_of_ble_eq_true rfl) (Nat.le_of_ble_eq_true rfl)

set_option maxRecDepth 100000 in
set_option maxHeartbeats 1000000 in
theorem c_X6_ofWell_x1 (l : Launch) (hfl : l.stackTraces = false) (D : va_G) (cy : Nat → ClassId) (lo n : Nat) (w : Nat → va_E) (o : Nat) (G T P : Mem) (ho1 : lo ≤ o) (ho2 : o + 118 ≤ lo + n) (hdr : G 0 2 = 0) (x y : Int32) : vx_Met l yX6_ofWell wsX6_ofWell ({ frames := 7, cells := 1, slots := 6, locals := 111 }) (PcX D cy lo n (gw cy (gw cy (hw cy w o P) (o + 50) T) (o + 1) G) [.ref o, .int x, .int y]) (QNi D lo n) (XCE D lo n (gw cy (gw cy (hw cy w o P) (o + 50) T) (o + 1) G) IOB) 1 6 (fun q : Nat => lo ≤ q) := by
  refine vx_ofW (cc := cX6_ofWell) (maxL := 5) (ret := (some .int)) (by decide) rfl ?_
  intro p e s m args below meth c s₁ B hml ht hv
  obtain ⟨rfl, hP, hK, hX, hZ, hS⟩ := X_entry hv
  have hx := B.exec
  have hb := B.bytes
  have hr := B.returns
  have hts := atoms_spec (ws := wsX6_ofWell) B.pre
  have hown : s.vm.findClass RX6 = some m.cls := findClass_of_methodNamed B.named
  have hlocks := B.notSynchronized
  have iX2 : ∀ w ∈ u_ws RX2 TX2 12, w ∈ wsX6_ofWell := by decide +kernel
  have iX6 : ∀ w ∈ u_ws RX6 TX6 11, w ∈ wsX6_ofWell := by decide +kernel
  have hl := lv_entry ([.ref o, .int x, .int y]) (n := 5) (Nat.le_of_ble_eq_true rfl)
  rw [lg_entry_eq]
  generalize (lg_sl ([.ref o, .int x, .int y]) ++ List.replicate (5 - (lg_sl ([.ref o, .int x, .int y])).length) Slot.unset).toArray = ls at hl ⊢
  have hl : lv_has ls 5 [(0, .ref o), (1, .int x), (2, .int y)] := hl
  refine lv_iload_n hx hb dX6_ofWell_0 rfl (lv_at hl 1 rfl) ?_
  refine lv_aload_n hx hb dX6_ofWell_1 rfl (lv_at hl 0 rfl) ?_
  refine x_get (ref := RX6) (C := RX6) (T := TX6) (N := 11) (ci := 6) (v := .ref (o + 1)) hx hb hts iX6 hown hK.1 hP (by omega) (by omega) pwx_0 rfl 0 (by decide) (hts (.fieldLink RX6 10 "PoreField" "ground" "LPoreField$Ground;") (by decide +kernel)) (fun _ h9 => h9) rfl dX6_ofWell_2 ?_
  refine x_get (ref := RX2) (C := RX2) (T := TX2) (N := 12) (ci := 2) (v := .int (G 0 2)) hx hb hts iX2 hown hK.1 hP (by omega) (by omega) gw_0 rfl 2 (by decide) (hts (.fieldLink RX6 87 "PoreField$Ground" "drilled" "I") (by decide +kernel)) (fun _ h9 => h9) rfl dX6_ofWell_5 ?_
  refine x_top (v' := (0 : Int32)) hdr ?_
  exact x_xcallv (vx_runS (As := [.int x, .int (0 : Int32)]) (rest := []) ⟨hx, hb, hml, hown, hts⟩ (c_X6_needIndex_x l hfl D cy lo n (gw cy (gw cy (hw cy w o P) (o + 50) T) (o + 1) G) x (0 : Int32) (bad0 _)) (va_cwS 2 hts gX6_ofWell_X6_needIndex rfl rfl rfl (by decide +kernel) ⟨Nat.le_of_ble_eq_true rfl, Nat.le_of_ble_eq_true rfl⟩) (preSX hP hK hX hZ hS) rfl rfl hl.1 rfl (lv_room (Nat.le_of_ble_eq_true rfl)) dX6_ofWell_8 ⟨Nat.le_of_ble_eq_true rfl, Nat.le_of_ble_eq_true rfl⟩) hS ht hlocks (Nat.le_of_ble_eq_true rfl) (Nat.le_of_ble_eq_true rfl)

set_option maxRecDepth 100000 in
set_option maxHeartbeats 1000000 in
theorem c_X6_bestChoke_x1 (l : Launch) (hfl : l.stackTraces = false) (D : va_G) (cy : Nat → ClassId) (lo n : Nat) (w : Nat → va_E) (o : Nat) (G T P : Mem) (ho1 : lo ≤ o) (ho2 : o + 118 ≤ lo + n) (hdr : G 0 2 = 0) (x y : Int32) : vx_Met l yX6_bestChoke wsX6_bestChoke ({ frames := 7, cells := 1, slots := 6, locals := 111 }) (PcX D cy lo n (gw cy (gw cy (hw cy w o P) (o + 50) T) (o + 1) G) [.ref o, .int x, .int y]) (QNi D lo n) (XCE D lo n (gw cy (gw cy (hw cy w o P) (o + 50) T) (o + 1) G) IOB) 1 6 (fun q : Nat => lo ≤ q) := by
  refine vx_ofW (cc := cX6_bestChoke) (maxL := 7) (ret := (some .int)) (by decide) rfl ?_
  intro p e s m args below meth c s₁ B hml ht hv
  obtain ⟨rfl, hP, hK, hX, hZ, hS⟩ := X_entry hv
  have hx := B.exec
  have hb := B.bytes
  have hr := B.returns
  have hts := atoms_spec (ws := wsX6_bestChoke) B.pre
  have hown : s.vm.findClass RX6 = some m.cls := findClass_of_methodNamed B.named
  have hlocks := B.notSynchronized
  have iX2 : ∀ w ∈ u_ws RX2 TX2 12, w ∈ wsX6_bestChoke := by decide +kernel
  have iX6 : ∀ w ∈ u_ws RX6 TX6 11, w ∈ wsX6_bestChoke := by decide +kernel
  have hl := lv_entry ([.ref o, .int x, .int y]) (n := 7) (Nat.le_of_ble_eq_true rfl)
  rw [lg_entry_eq]
  generalize (lg_sl ([.ref o, .int x, .int y]) ++ List.replicate (7 - (lg_sl ([.ref o, .int x, .int y])).length) Slot.unset).toArray = ls at hl ⊢
  have hl : lv_has ls 7 [(0, .ref o), (1, .int x), (2, .int y)] := hl
  refine lv_iload_n hx hb dX6_bestChoke_0 rfl (lv_at hl 1 rfl) ?_
  refine lv_aload_n hx hb dX6_bestChoke_1 rfl (lv_at hl 0 rfl) ?_
  refine x_get (ref := RX6) (C := RX6) (T := TX6) (N := 11) (ci := 6) (v := .ref (o + 1)) hx hb hts iX6 hown hK.1 hP (by omega) (by omega) pwx_0 rfl 0 (by decide) (hts (.fieldLink RX6 10 "PoreField" "ground" "LPoreField$Ground;") (by decide +kernel)) (fun _ h9 => h9) rfl dX6_bestChoke_2 ?_
  refine x_get (ref := RX2) (C := RX2) (T := TX2) (N := 12) (ci := 2) (v := .int (G 0 2)) hx hb hts iX2 hown hK.1 hP (by omega) (by omega) gw_0 rfl 2 (by decide) (hts (.fieldLink RX6 87 "PoreField$Ground" "drilled" "I") (by decide +kernel)) (fun _ h9 => h9) rfl dX6_bestChoke_5 ?_
  refine x_top (v' := (0 : Int32)) hdr ?_
  exact x_xcallv (vx_runS (As := [.int x, .int (0 : Int32)]) (rest := []) ⟨hx, hb, hml, hown, hts⟩ (c_X6_needIndex_x l hfl D cy lo n (gw cy (gw cy (hw cy w o P) (o + 50) T) (o + 1) G) x (0 : Int32) (bad0 _)) (va_cwS 2 hts gX6_bestChoke_X6_needIndex rfl rfl rfl (by decide +kernel) ⟨Nat.le_of_ble_eq_true rfl, Nat.le_of_ble_eq_true rfl⟩) (preSX hP hK hX hZ hS) rfl rfl hl.1 rfl (lv_room (Nat.le_of_ble_eq_true rfl)) dX6_bestChoke_8 ⟨Nat.le_of_ble_eq_true rfl, Nat.le_of_ble_eq_true rfl⟩) hS ht hlocks (Nat.le_of_ble_eq_true rfl) (Nat.le_of_ble_eq_true rfl)

set_option maxRecDepth 100000 in
set_option maxHeartbeats 1000000 in
theorem c_X6_test_x1 (l : Launch) (hfl : l.stackTraces = false) (D : va_G) (cy : Nat → ClassId) (lo n : Nat) (w : Nat → va_E) (o : Nat) (G T P : Mem) (ho1 : lo ≤ o) (ho2 : o + 118 ≤ lo + n) (hdr : G 0 2 = 0) (x : Int32) : vx_Met l yX6_test wsX6_test ({ frames := 7, cells := 1, slots := 6, locals := 111 }) (PcX D cy lo n (gw cy (gw cy (hw cy w o P) (o + 50) T) (o + 1) G) [.ref o, .int x]) (QNi D lo n) (XCE D lo n (gw cy (gw cy (hw cy w o P) (o + 50) T) (o + 1) G) IOB) 1 6 (fun q : Nat => lo ≤ q) := by
  refine vx_ofW (cc := cX6_test) (maxL := 3) (ret := (some .boolean)) (by decide) rfl ?_
  intro p e s m args below meth c s₁ B hml ht hv
  obtain ⟨rfl, hP, hK, hX, hZ, hS⟩ := X_entry hv
  have hx := B.exec
  have hb := B.bytes
  have hr := B.returns
  have hts := atoms_spec (ws := wsX6_test) B.pre
  have hown : s.vm.findClass RX6 = some m.cls := findClass_of_methodNamed B.named
  have hlocks := B.notSynchronized
  have iX2 : ∀ w ∈ u_ws RX2 TX2 12, w ∈ wsX6_test := by decide +kernel
  have iX6 : ∀ w ∈ u_ws RX6 TX6 11, w ∈ wsX6_test := by decide +kernel
  have hl := lv_entry ([.ref o, .int x]) (n := 3) (Nat.le_of_ble_eq_true rfl)
  rw [lg_entry_eq]
  generalize (lg_sl ([.ref o, .int x]) ++ List.replicate (3 - (lg_sl ([.ref o, .int x])).length) Slot.unset).toArray = ls at hl ⊢
  have hl : lv_has ls 3 [(0, .ref o), (1, .int x)] := hl
  refine lv_iload_n hx hb dX6_test_0 rfl (lv_at hl 1 rfl) ?_
  refine lv_aload_n hx hb dX6_test_1 rfl (lv_at hl 0 rfl) ?_
  refine x_get (ref := RX6) (C := RX6) (T := TX6) (N := 11) (ci := 6) (v := .ref (o + 1)) hx hb hts iX6 hown hK.1 hP (by omega) (by omega) pwx_0 rfl 0 (by decide) (hts (.fieldLink RX6 10 "PoreField" "ground" "LPoreField$Ground;") (by decide +kernel)) (fun _ h9 => h9) rfl dX6_test_2 ?_
  refine x_get (ref := RX2) (C := RX2) (T := TX2) (N := 12) (ci := 2) (v := .int (G 0 2)) hx hb hts iX2 hown hK.1 hP (by omega) (by omega) gw_0 rfl 2 (by decide) (hts (.fieldLink RX6 87 "PoreField$Ground" "drilled" "I") (by decide +kernel)) (fun _ h9 => h9) rfl dX6_test_5 ?_
  refine x_top (v' := (0 : Int32)) hdr ?_
  exact x_xcallv (vx_runS (As := [.int x, .int (0 : Int32)]) (rest := []) ⟨hx, hb, hml, hown, hts⟩ (c_X6_needIndex_x l hfl D cy lo n (gw cy (gw cy (hw cy w o P) (o + 50) T) (o + 1) G) x (0 : Int32) (bad0 _)) (va_cwS 2 hts gX6_test_X6_needIndex rfl rfl rfl (by decide +kernel) ⟨Nat.le_of_ble_eq_true rfl, Nat.le_of_ble_eq_true rfl⟩) (preSX hP hK hX hZ hS) rfl rfl hl.1 rfl (lv_room (Nat.le_of_ble_eq_true rfl)) dX6_test_8 ⟨Nat.le_of_ble_eq_true rfl, Nat.le_of_ble_eq_true rfl⟩) hS ht hlocks (Nat.le_of_ble_eq_true rfl) (Nat.le_of_ble_eq_true rfl)

set_option maxRecDepth 100000 in
set_option maxHeartbeats 1000000 in
theorem c_X6_plug_x1 (l : Launch) (hfl : l.stackTraces = false) (D : va_G) (cy : Nat → ClassId) (lo n : Nat) (w : Nat → va_E) (o : Nat) (G T P : Mem) (ho1 : lo ≤ o) (ho2 : o + 118 ≤ lo + n) (hdr : G 0 2 = 0) (x : Int32) : vx_Met l yX6_plug wsX6_plug ({ frames := 7, cells := 1, slots := 6, locals := 111 }) (PcX D cy lo n (gw cy (gw cy (hw cy w o P) (o + 50) T) (o + 1) G) [.ref o, .int x]) (QNi D lo n) (XCE D lo n (gw cy (gw cy (hw cy w o P) (o + 50) T) (o + 1) G) IOB) 1 6 (fun q : Nat => lo ≤ q) := by
  refine vx_ofW (cc := cX6_plug) (maxL := 3) (ret := (some .int)) (by decide) rfl ?_
  intro p e s m args below meth c s₁ B hml ht hv
  obtain ⟨rfl, hP, hK, hX, hZ, hS⟩ := X_entry hv
  have hx := B.exec
  have hb := B.bytes
  have hr := B.returns
  have hts := atoms_spec (ws := wsX6_plug) B.pre
  have hown : s.vm.findClass RX6 = some m.cls := findClass_of_methodNamed B.named
  have hlocks := B.notSynchronized
  have iX2 : ∀ w ∈ u_ws RX2 TX2 12, w ∈ wsX6_plug := by decide +kernel
  have iX6 : ∀ w ∈ u_ws RX6 TX6 11, w ∈ wsX6_plug := by decide +kernel
  have hl := lv_entry ([.ref o, .int x]) (n := 3) (Nat.le_of_ble_eq_true rfl)
  rw [lg_entry_eq]
  generalize (lg_sl ([.ref o, .int x]) ++ List.replicate (3 - (lg_sl ([.ref o, .int x])).length) Slot.unset).toArray = ls at hl ⊢
  have hl : lv_has ls 3 [(0, .ref o), (1, .int x)] := hl
  refine lv_iload_n hx hb dX6_plug_0 rfl (lv_at hl 1 rfl) ?_
  refine lv_aload_n hx hb dX6_plug_1 rfl (lv_at hl 0 rfl) ?_
  refine x_get (ref := RX6) (C := RX6) (T := TX6) (N := 11) (ci := 6) (v := .ref (o + 1)) hx hb hts iX6 hown hK.1 hP (by omega) (by omega) pwx_0 rfl 0 (by decide) (hts (.fieldLink RX6 10 "PoreField" "ground" "LPoreField$Ground;") (by decide +kernel)) (fun _ h9 => h9) rfl dX6_plug_2 ?_
  refine x_get (ref := RX2) (C := RX2) (T := TX2) (N := 12) (ci := 2) (v := .int (G 0 2)) hx hb hts iX2 hown hK.1 hP (by omega) (by omega) gw_0 rfl 2 (by decide) (hts (.fieldLink RX6 87 "PoreField$Ground" "drilled" "I") (by decide +kernel)) (fun _ h9 => h9) rfl dX6_plug_5 ?_
  refine x_top (v' := (0 : Int32)) hdr ?_
  exact x_xcallv (vx_runS (As := [.int x, .int (0 : Int32)]) (rest := []) ⟨hx, hb, hml, hown, hts⟩ (c_X6_needIndex_x l hfl D cy lo n (gw cy (gw cy (hw cy w o P) (o + 50) T) (o + 1) G) x (0 : Int32) (bad0 _)) (va_cwS 2 hts gX6_plug_X6_needIndex rfl rfl rfl (by decide +kernel) ⟨Nat.le_of_ble_eq_true rfl, Nat.le_of_ble_eq_true rfl⟩) (preSX hP hK hX hZ hS) rfl rfl hl.1 rfl (lv_room (Nat.le_of_ble_eq_true rfl)) dX6_plug_8 ⟨Nat.le_of_ble_eq_true rfl, Nat.le_of_ble_eq_true rfl⟩) hS ht hlocks (Nat.le_of_ble_eq_true rfl) (Nat.le_of_ble_eq_true rfl)

set_option maxRecDepth 100000 in
set_option maxHeartbeats 1000000 in
theorem c_X6_capacity_x1 (l : Launch) (hfl : l.stackTraces = false) (D : va_G) (cy : Nat → ClassId) (lo n : Nat) (w : Nat → va_E) (o : Nat) (G T P : Mem) (ho1 : lo ≤ o) (ho2 : o + 118 ≤ lo + n) (hdr : G 0 2 = 0) (x y : Int32) (hbad : ¬ (0 ≤ x ∧ x ≤ 2)) : vx_Met l yX6_capacity wsX6_capacity ({ frames := 7, cells := 1, slots := 6, locals := 111 }) (PcX D cy lo n (gw cy (gw cy (hw cy w o P) (o + 50) T) (o + 1) G) [.ref o, .int x, .int y]) (QNi D lo n) (XCE D lo n (gw cy (gw cy (hw cy w o P) (o + 50) T) (o + 1) G) IOB) 1 6 (fun q : Nat => lo ≤ q) := by
  refine vx_ofW (cc := cX6_capacity) (maxL := 4) (ret := (some .int)) (by decide) rfl ?_
  intro p e s m args below meth c s₁ B hml ht hv
  obtain ⟨rfl, hP, hK, hX, hZ, hS⟩ := X_entry hv
  have hx := B.exec
  have hb := B.bytes
  have hr := B.returns
  have hts := atoms_spec (ws := wsX6_capacity) B.pre
  have hown : s.vm.findClass RX6 = some m.cls := findClass_of_methodNamed B.named
  have hlocks := B.notSynchronized
  have hl := lv_entry ([.ref o, .int x, .int y]) (n := 4) (Nat.le_of_ble_eq_true rfl)
  rw [lg_entry_eq]
  generalize (lg_sl ([.ref o, .int x, .int y]) ++ List.replicate (4 - (lg_sl ([.ref o, .int x, .int y])).length) Slot.unset).toArray = ls at hl ⊢
  have hl : lv_has ls 4 [(0, .ref o), (1, .int x), (2, .int y)] := hl
  refine lv_iload_n hx hb dX6_capacity_0 rfl (lv_at hl 1 rfl) ?_
  refine lv_iconst (v := 3) hx hb dX6_capacity_1 (by decide) ?_
  exact x_xcallv (vx_runS (As := [.int x, .int (3 : Int32)]) (rest := []) ⟨hx, hb, hml, hown, hts⟩ (c_X6_needIndex_x l hfl D cy lo n (gw cy (gw cy (hw cy w o P) (o + 50) T) (o + 1) G) x (3 : Int32) (not_ix up2 hbad)) (va_cwS 2 hts gX6_capacity_X6_needIndex rfl rfl rfl (by decide +kernel) ⟨Nat.le_of_ble_eq_true rfl, Nat.le_of_ble_eq_true rfl⟩) (preSX hP hK hX hZ hS) rfl rfl hl.1 rfl (lv_room (Nat.le_of_ble_eq_true rfl)) dX6_capacity_2 ⟨Nat.le_of_ble_eq_true rfl, Nat.le_of_ble_eq_true rfl⟩) hS ht hlocks (Nat.le_of_ble_eq_true rfl) (Nat.le_of_ble_eq_true rfl)

set_option maxRecDepth 100000 in
set_option maxHeartbeats 1000000 in
theorem c_X6_capacity_x2 (l : Launch) (hfl : l.stackTraces = false) (D : va_G) (cy : Nat → ClassId) (lo n : Nat) (w : Nat → va_E) (o : Nat) (G T P : Mem) (ho1 : lo ≤ o) (ho2 : o + 118 ≤ lo + n) (hdr : G 0 2 = 0) (f : Nat) (hf : f < 3) (y : Int32) (hbad : ¬ (0 ≤ y ∧ y ≤ 99)) : vx_Met l yX6_capacity wsX6_capacity ({ frames := 7, cells := 1, slots := 6, locals := 112 }) (PcX D cy lo n (gw cy (gw cy (hw cy w o P) (o + 50) T) (o + 1) G) [.ref o, .int (nI f), .int y]) (QNi D lo n) (XCE D lo n (gw cy (gw cy (hw cy w o P) (o + 50) T) (o + 1) G) IAE) 1 6 (fun q : Nat => lo ≤ q) := by
  refine vx_ofW (cc := cX6_capacity) (maxL := 4) (ret := (some .int)) (by decide) rfl ?_
  intro p e s m args below meth c s₁ B hml ht hv
  obtain ⟨rfl, hP, hK, hX, hZ, hS⟩ := X_entry hv
  have hx := B.exec
  have hb := B.bytes
  have hr := B.returns
  have hts := atoms_spec (ws := wsX6_capacity) B.pre
  have hown : s.vm.findClass RX6 = some m.cls := findClass_of_methodNamed B.named
  have hlocks := B.notSynchronized
  have hl := lv_entry ([.ref o, .int (nI f), .int y]) (n := 4) (Nat.le_of_ble_eq_true rfl)
  rw [lg_entry_eq]
  generalize (lg_sl ([.ref o, .int (nI f), .int y]) ++ List.replicate (4 - (lg_sl ([.ref o, .int (nI f), .int y])).length) Slot.unset).toArray = ls at hl ⊢
  have hl : lv_has ls 4 [(0, .ref o), (1, .int (nI f)), (2, .int y)] := hl
  refine lv_iload_n hx hb dX6_capacity_0 rfl (lv_at hl 1 rfl) ?_
  refine lv_iconst (v := 3) hx hb dX6_capacity_1 (by decide) ?_
  refine x_callv (va_runS (As := [.int (nI f), .int (3 : Int32)]) (rest := []) ⟨hx, hb, hml, hown, hts⟩ (c_X6_needIndex l D cy lo n (gw cy (gw cy (hw cy w o P) (o + 50) T) (o + 1) G) f 3 (by omega) (by omega) (nI f) (3 : Int32) rfl rfl) (va_cwS 2 hts gX6_capacity_X6_needIndex rfl rfl rfl (by decide +kernel) ⟨Nat.le_of_ble_eq_true rfl, Nat.le_of_ble_eq_true rfl⟩) (preS hP hK) rfl rfl hl.1 rfl (lv_room (Nat.le_of_ble_eq_true rfl)) dX6_capacity_2 ⟨Nat.le_of_ble_eq_true rfl, Nat.le_of_ble_eq_true rfl⟩) hS (fun H locs hP hS => ?_)
  refine lv_iload_n hx hb dX6_capacity_5 rfl (lv_at hl 2 rfl) ?_
  refine lv_iconst (v := 0) hx hb dX6_capacity_6 (by decide) ?_
  refine lv_bipush (v := 99) hx hb dX6_capacity_7 (by decide) ?_
  exact x_xcallv (vx_runS (As := [.int y, .int (0 : Int32), .int (99 : Int32)]) (rest := []) ⟨hx, hb, hml, hown, hts⟩ (c_X6_needWithin_x l hfl D cy lo n (gw cy (gw cy (hw cy w o P) (o + 50) T) (o + 1) G) y (0 : Int32) (99 : Int32) (not_in hbad)) (va_cwS 3 hts gX6_capacity_X6_needWithin rfl rfl rfl (by decide +kernel) ⟨Nat.le_of_ble_eq_true rfl, Nat.le_of_ble_eq_true rfl⟩) (preSX hP hK hX hZ hS) rfl rfl hl.1 rfl (lv_room (Nat.le_of_ble_eq_true rfl)) dX6_capacity_9 ⟨Nat.le_of_ble_eq_true rfl, Nat.le_of_ble_eq_true rfl⟩) hS ht hlocks (Nat.le_of_ble_eq_true rfl) (Nat.le_of_ble_eq_true rfl)

set_option maxRecDepth 100000 in
set_option maxHeartbeats 1000000 in
theorem c_X6_permit_x1 (l : Launch) (hfl : l.stackTraces = false) (D : va_G) (cy : Nat → ClassId) (lo n : Nat) (w : Nat → va_E) (o : Nat) (G T P : Mem) (ho1 : lo ≤ o) (ho2 : o + 118 ≤ lo + n) (hdr : G 0 2 = 0) (x : Int32) (hbad : ¬ (0 ≤ x ∧ x ≤ 99)) : vx_Met l yX6_permit wsX6_permit ({ frames := 7, cells := 1, slots := 6, locals := 112 }) (PcX D cy lo n (gw cy (gw cy (hw cy w o P) (o + 50) T) (o + 1) G) [.ref o, .int x]) (QNi D lo n) (XCE D lo n (gw cy (gw cy (hw cy w o P) (o + 50) T) (o + 1) G) IAE) 1 6 (fun q : Nat => lo ≤ q) := by
  refine vx_ofW (cc := cX6_permit) (maxL := 3) (ret := (some .int)) (by decide) rfl ?_
  intro p e s m args below meth c s₁ B hml ht hv
  obtain ⟨rfl, hP, hK, hX, hZ, hS⟩ := X_entry hv
  have hx := B.exec
  have hb := B.bytes
  have hr := B.returns
  have hts := atoms_spec (ws := wsX6_permit) B.pre
  have hown : s.vm.findClass RX6 = some m.cls := findClass_of_methodNamed B.named
  have hlocks := B.notSynchronized
  have hl := lv_entry ([.ref o, .int x]) (n := 3) (Nat.le_of_ble_eq_true rfl)
  rw [lg_entry_eq]
  generalize (lg_sl ([.ref o, .int x]) ++ List.replicate (3 - (lg_sl ([.ref o, .int x])).length) Slot.unset).toArray = ls at hl ⊢
  have hl : lv_has ls 3 [(0, .ref o), (1, .int x)] := hl
  refine lv_iload_n hx hb dX6_permit_0 rfl (lv_at hl 1 rfl) ?_
  refine lv_iconst (v := 0) hx hb dX6_permit_1 (by decide) ?_
  refine lv_bipush (v := 99) hx hb dX6_permit_2 (by decide) ?_
  exact x_xcallv (vx_runS (As := [.int x, .int (0 : Int32), .int (99 : Int32)]) (rest := []) ⟨hx, hb, hml, hown, hts⟩ (c_X6_needWithin_x l hfl D cy lo n (gw cy (gw cy (hw cy w o P) (o + 50) T) (o + 1) G) x (0 : Int32) (99 : Int32) (not_in hbad)) (va_cwS 3 hts gX6_permit_X6_needWithin rfl rfl rfl (by decide +kernel) ⟨Nat.le_of_ble_eq_true rfl, Nat.le_of_ble_eq_true rfl⟩) (preSX hP hK hX hZ hS) rfl rfl hl.1 rfl (lv_room (Nat.le_of_ble_eq_true rfl)) dX6_permit_4 ⟨Nat.le_of_ble_eq_true rfl, Nat.le_of_ble_eq_true rfl⟩) hS ht hlocks (Nat.le_of_ble_eq_true rfl) (Nat.le_of_ble_eq_true rfl)

set_option maxRecDepth 100000 in
set_option maxHeartbeats 1000000 in
theorem c_X6_tank_x1 (l : Launch) (hfl : l.stackTraces = false) (D : va_G) (cy : Nat → ClassId) (lo n : Nat) (w : Nat → va_E) (o : Nat) (G T P : Mem) (ho1 : lo ≤ o) (ho2 : o + 118 ≤ lo + n) (hdr : G 0 2 = 0) (x : Int32) (hbad : ¬ (0 ≤ x ∧ x ≤ 999)) : vx_Met l yX6_tank wsX6_tank ({ frames := 7, cells := 1, slots := 6, locals := 112 }) (PcX D cy lo n (gw cy (gw cy (hw cy w o P) (o + 50) T) (o + 1) G) [.ref o, .int x]) (QNi D lo n) (XCE D lo n (gw cy (gw cy (hw cy w o P) (o + 50) T) (o + 1) G) IAE) 1 6 (fun q : Nat => lo ≤ q) := by
  refine vx_ofW (cc := cX6_tank) (maxL := 2) (ret := (some .int)) (by decide) rfl ?_
  intro p e s m args below meth c s₁ B hml ht hv
  obtain ⟨rfl, hP, hK, hX, hZ, hS⟩ := X_entry hv
  have hx := B.exec
  have hb := B.bytes
  have hr := B.returns
  have hts := atoms_spec (ws := wsX6_tank) B.pre
  have hown : s.vm.findClass RX6 = some m.cls := findClass_of_methodNamed B.named
  have hlocks := B.notSynchronized
  have hl := lv_entry ([.ref o, .int x]) (n := 2) (Nat.le_of_ble_eq_true rfl)
  rw [lg_entry_eq]
  generalize (lg_sl ([.ref o, .int x]) ++ List.replicate (2 - (lg_sl ([.ref o, .int x])).length) Slot.unset).toArray = ls at hl ⊢
  have hl : lv_has ls 2 [(0, .ref o), (1, .int x)] := hl
  refine lv_iload_n hx hb dX6_tank_0 rfl (lv_at hl 1 rfl) ?_
  refine lv_iconst (v := 0) hx hb dX6_tank_1 (by decide) ?_
  refine lv_sipush (v := 999) hx hb dX6_tank_2 (by decide) ?_
  exact x_xcallv (vx_runS (As := [.int x, .int (0 : Int32), .int (999 : Int32)]) (rest := []) ⟨hx, hb, hml, hown, hts⟩ (c_X6_needWithin_x l hfl D cy lo n (gw cy (gw cy (hw cy w o P) (o + 50) T) (o + 1) G) x (0 : Int32) (999 : Int32) (not_in hbad)) (va_cwS 3 hts gX6_tank_X6_needWithin rfl rfl rfl (by decide +kernel) ⟨Nat.le_of_ble_eq_true rfl, Nat.le_of_ble_eq_true rfl⟩) (preSX hP hK hX hZ hS) rfl rfl hl.1 rfl (lv_room (Nat.le_of_ble_eq_true rfl)) dX6_tank_5 ⟨Nat.le_of_ble_eq_true rfl, Nat.le_of_ble_eq_true rfl⟩) hS ht hlocks (Nat.le_of_ble_eq_true rfl) (Nat.le_of_ble_eq_true rfl)

set_option maxRecDepth 100000 in
set_option maxHeartbeats 1000000 in
theorem c_X6_price_x1 (l : Launch) (hfl : l.stackTraces = false) (D : va_G) (cy : Nat → ClassId) (lo n : Nat) (w : Nat → va_E) (o : Nat) (G T P : Mem) (ho1 : lo ≤ o) (ho2 : o + 118 ≤ lo + n) (hdr : G 0 2 = 0) (x : Int32) (hbad : ¬ (0 ≤ x ∧ x ≤ 99)) : vx_Met l yX6_price wsX6_price ({ frames := 7, cells := 1, slots := 6, locals := 112 }) (PcX D cy lo n (gw cy (gw cy (hw cy w o P) (o + 50) T) (o + 1) G) [.ref o, .int x]) (QNi D lo n) (XCE D lo n (gw cy (gw cy (hw cy w o P) (o + 50) T) (o + 1) G) IAE) 1 6 (fun q : Nat => lo ≤ q) := by
  refine vx_ofW (cc := cX6_price) (maxL := 3) (ret := (some .int)) (by decide) rfl ?_
  intro p e s m args below meth c s₁ B hml ht hv
  obtain ⟨rfl, hP, hK, hX, hZ, hS⟩ := X_entry hv
  have hx := B.exec
  have hb := B.bytes
  have hr := B.returns
  have hts := atoms_spec (ws := wsX6_price) B.pre
  have hown : s.vm.findClass RX6 = some m.cls := findClass_of_methodNamed B.named
  have hlocks := B.notSynchronized
  have hl := lv_entry ([.ref o, .int x]) (n := 3) (Nat.le_of_ble_eq_true rfl)
  rw [lg_entry_eq]
  generalize (lg_sl ([.ref o, .int x]) ++ List.replicate (3 - (lg_sl ([.ref o, .int x])).length) Slot.unset).toArray = ls at hl ⊢
  have hl : lv_has ls 3 [(0, .ref o), (1, .int x)] := hl
  refine lv_iload_n hx hb dX6_price_0 rfl (lv_at hl 1 rfl) ?_
  refine lv_iconst (v := 0) hx hb dX6_price_1 (by decide) ?_
  refine lv_bipush (v := 99) hx hb dX6_price_2 (by decide) ?_
  exact x_xcallv (vx_runS (As := [.int x, .int (0 : Int32), .int (99 : Int32)]) (rest := []) ⟨hx, hb, hml, hown, hts⟩ (c_X6_needWithin_x l hfl D cy lo n (gw cy (gw cy (hw cy w o P) (o + 50) T) (o + 1) G) x (0 : Int32) (99 : Int32) (not_in hbad)) (va_cwS 3 hts gX6_price_X6_needWithin rfl rfl rfl (by decide +kernel) ⟨Nat.le_of_ble_eq_true rfl, Nat.le_of_ble_eq_true rfl⟩) (preSX hP hK hX hZ hS) rfl rfl hl.1 rfl (lv_room (Nat.le_of_ble_eq_true rfl)) dX6_price_4 ⟨Nat.le_of_ble_eq_true rfl, Nat.le_of_ble_eq_true rfl⟩) hS ht hlocks (Nat.le_of_ble_eq_true rfl) (Nat.le_of_ble_eq_true rfl)

set_option maxRecDepth 100000 in
set_option maxHeartbeats 1000000 in
theorem c_X6_pass_x1 (l : Launch) (hfl : l.stackTraces = false) (D : va_G) (cy : Nat → ClassId) (lo n : Nat) (w : Nat → va_E) (o : Nat) (G T P : Mem) (ho1 : lo ≤ o) (ho2 : o + 118 ≤ lo + n) (hdr : G 0 2 = 0) (x : Int32) (hbad : ¬ (1 ≤ x ∧ x ≤ 24)) : vx_Met l yX6_pass wsX6_pass ({ frames := 7, cells := 1, slots := 6, locals := 112 }) (PcX D cy lo n (gw cy (gw cy (hw cy w o P) (o + 50) T) (o + 1) G) [.ref o, .int x]) (QNi D lo n) (XCE D lo n (gw cy (gw cy (hw cy w o P) (o + 50) T) (o + 1) G) IAE) 1 6 (fun q : Nat => lo ≤ q) := by
  refine vx_ofW (cc := cX6_pass) (maxL := 4) (ret := (some .int)) (by decide) rfl ?_
  intro p e s m args below meth c s₁ B hml ht hv
  obtain ⟨rfl, hP, hK, hX, hZ, hS⟩ := X_entry hv
  have hx := B.exec
  have hb := B.bytes
  have hr := B.returns
  have hts := atoms_spec (ws := wsX6_pass) B.pre
  have hown : s.vm.findClass RX6 = some m.cls := findClass_of_methodNamed B.named
  have hlocks := B.notSynchronized
  have hl := lv_entry ([.ref o, .int x]) (n := 4) (Nat.le_of_ble_eq_true rfl)
  rw [lg_entry_eq]
  generalize (lg_sl ([.ref o, .int x]) ++ List.replicate (4 - (lg_sl ([.ref o, .int x])).length) Slot.unset).toArray = ls at hl ⊢
  have hl : lv_has ls 4 [(0, .ref o), (1, .int x)] := hl
  refine lv_iload_n hx hb dX6_pass_0 rfl (lv_at hl 1 rfl) ?_
  refine lv_iconst (v := 1) hx hb dX6_pass_1 (by decide) ?_
  refine lv_bipush (v := 24) hx hb dX6_pass_2 (by decide) ?_
  exact x_xcallv (vx_runS (As := [.int x, .int (1 : Int32), .int (24 : Int32)]) (rest := []) ⟨hx, hb, hml, hown, hts⟩ (c_X6_needWithin_x l hfl D cy lo n (gw cy (gw cy (hw cy w o P) (o + 50) T) (o + 1) G) x (1 : Int32) (24 : Int32) (not_in hbad)) (va_cwS 3 hts gX6_pass_X6_needWithin rfl rfl rfl (by decide +kernel) ⟨Nat.le_of_ble_eq_true rfl, Nat.le_of_ble_eq_true rfl⟩) (preSX hP hK hX hZ hS) rfl rfl hl.1 rfl (lv_room (Nat.le_of_ble_eq_true rfl)) dX6_pass_4 ⟨Nat.le_of_ble_eq_true rfl, Nat.le_of_ble_eq_true rfl⟩) hS ht hlocks (Nat.le_of_ble_eq_true rfl) (Nat.le_of_ble_eq_true rfl)

set_option maxRecDepth 100000 in
set_option maxHeartbeats 1000000 in
theorem c_X6_booked_x1 (l : Launch) (hfl : l.stackTraces = false) (D : va_G) (cy : Nat → ClassId) (lo n : Nat) (w : Nat → va_E) (o : Nat) (G T P : Mem) (ho1 : lo ≤ o) (ho2 : o + 118 ≤ lo + n) (hdr : G 0 2 = 0) (x : Int32) (hbad : ¬ (0 ≤ x ∧ x ≤ 4)) : vx_Met l yX6_booked wsX6_booked ({ frames := 7, cells := 1, slots := 6, locals := 112 }) (PcX D cy lo n (gw cy (gw cy (hw cy w o P) (o + 50) T) (o + 1) G) [.ref o, .int x]) (QNi D lo n) (XCE D lo n (gw cy (gw cy (hw cy w o P) (o + 50) T) (o + 1) G) IAE) 1 6 (fun q : Nat => lo ≤ q) := by
  refine vx_ofW (cc := cX6_booked) (maxL := 2) (ret := (some .int)) (by decide) rfl ?_
  intro p e s m args below meth c s₁ B hml ht hv
  obtain ⟨rfl, hP, hK, hX, hZ, hS⟩ := X_entry hv
  have hx := B.exec
  have hb := B.bytes
  have hr := B.returns
  have hts := atoms_spec (ws := wsX6_booked) B.pre
  have hown : s.vm.findClass RX6 = some m.cls := findClass_of_methodNamed B.named
  have hlocks := B.notSynchronized
  have hl := lv_entry ([.ref o, .int x]) (n := 2) (Nat.le_of_ble_eq_true rfl)
  rw [lg_entry_eq]
  generalize (lg_sl ([.ref o, .int x]) ++ List.replicate (2 - (lg_sl ([.ref o, .int x])).length) Slot.unset).toArray = ls at hl ⊢
  have hl : lv_has ls 2 [(0, .ref o), (1, .int x)] := hl
  refine lv_iload_n hx hb dX6_booked_0 rfl (lv_at hl 1 rfl) ?_
  refine lv_iconst (v := 0) hx hb dX6_booked_1 (by decide) ?_
  refine lv_iconst (v := 4) hx hb dX6_booked_2 (by decide) ?_
  exact x_xcallv (vx_runS (As := [.int x, .int (0 : Int32), .int (4 : Int32)]) (rest := []) ⟨hx, hb, hml, hown, hts⟩ (c_X6_needWithin_x l hfl D cy lo n (gw cy (gw cy (hw cy w o P) (o + 50) T) (o + 1) G) x (0 : Int32) (4 : Int32) (not_in hbad)) (va_cwS 3 hts gX6_booked_X6_needWithin rfl rfl rfl (by decide +kernel) ⟨Nat.le_of_ble_eq_true rfl, Nat.le_of_ble_eq_true rfl⟩) (preSX hP hK hX hZ hS) rfl rfl hl.1 rfl (lv_room (Nat.le_of_ble_eq_true rfl)) dX6_booked_3 ⟨Nat.le_of_ble_eq_true rfl, Nat.le_of_ble_eq_true rfl⟩) hS ht hlocks (Nat.le_of_ble_eq_true rfl) (Nat.le_of_ble_eq_true rfl)

set_option maxRecDepth 100000 in
set_option maxHeartbeats 1000000 in
theorem c_X6_many_x1 (l : Launch) (hfl : l.stackTraces = false) (D : va_G) (cy : Nat → ClassId) (lo n : Nat) (w : Nat → va_E) (o : Nat) (G T P : Mem) (ho1 : lo ≤ o) (ho2 : o + 118 ≤ lo + n) (hdr : G 0 2 = 0) (x : Int32) (hbad : ¬ (0 ≤ x ∧ x ≤ 14)) : vx_Met l yX6_many wsX6_many ({ frames := 7, cells := 1, slots := 6, locals := 112 }) (PcX D cy lo n (gw cy (gw cy (hw cy w o P) (o + 50) T) (o + 1) G) [.ref o, .int x]) (QNi D lo n) (XCE D lo n (gw cy (gw cy (hw cy w o P) (o + 50) T) (o + 1) G) IAE) 1 6 (fun q : Nat => lo ≤ q) := by
  refine vx_ofW (cc := cX6_many) (maxL := 2) (ret := (some .int)) (by decide) rfl ?_
  intro p e s m args below meth c s₁ B hml ht hv
  obtain ⟨rfl, hP, hK, hX, hZ, hS⟩ := X_entry hv
  have hx := B.exec
  have hb := B.bytes
  have hr := B.returns
  have hts := atoms_spec (ws := wsX6_many) B.pre
  have hown : s.vm.findClass RX6 = some m.cls := findClass_of_methodNamed B.named
  have hlocks := B.notSynchronized
  have hl := lv_entry ([.ref o, .int x]) (n := 2) (Nat.le_of_ble_eq_true rfl)
  rw [lg_entry_eq]
  generalize (lg_sl ([.ref o, .int x]) ++ List.replicate (2 - (lg_sl ([.ref o, .int x])).length) Slot.unset).toArray = ls at hl ⊢
  have hl : lv_has ls 2 [(0, .ref o), (1, .int x)] := hl
  refine lv_iload_n hx hb dX6_many_0 rfl (lv_at hl 1 rfl) ?_
  refine lv_iconst (v := 0) hx hb dX6_many_1 (by decide) ?_
  refine lv_bipush (v := 14) hx hb dX6_many_2 (by decide) ?_
  exact x_xcallv (vx_runS (As := [.int x, .int (0 : Int32), .int (14 : Int32)]) (rest := []) ⟨hx, hb, hml, hown, hts⟩ (c_X6_needWithin_x l hfl D cy lo n (gw cy (gw cy (hw cy w o P) (o + 50) T) (o + 1) G) x (0 : Int32) (14 : Int32) (not_in hbad)) (va_cwS 3 hts gX6_many_X6_needWithin rfl rfl rfl (by decide +kernel) ⟨Nat.le_of_ble_eq_true rfl, Nat.le_of_ble_eq_true rfl⟩) (preSX hP hK hX hZ hS) rfl rfl hl.1 rfl (lv_room (Nat.le_of_ble_eq_true rfl)) dX6_many_4 ⟨Nat.le_of_ble_eq_true rfl, Nat.le_of_ble_eq_true rfl⟩) hS ht hlocks (Nat.le_of_ble_eq_true rfl) (Nat.le_of_ble_eq_true rfl)

set_option maxRecDepth 100000 in
set_option maxHeartbeats 1000000 in
theorem c_X6_wouldGive_x1 (l : Launch) (hfl : l.stackTraces = false) (D : va_G) (cy : Nat → ClassId) (lo n : Nat) (w : Nat → va_E) (o : Nat) (G T P : Mem) (ho1 : lo ≤ o) (ho2 : o + 118 ≤ lo + n) (hdr : G 0 2 = 0) (x : Int32) (hbad : ¬ (1 ≤ x ∧ x ≤ 12)) : vx_Met l yX6_wouldGive wsX6_wouldGive ({ frames := 7, cells := 1, slots := 6, locals := 112 }) (PcX D cy lo n (gw cy (gw cy (hw cy w o P) (o + 50) T) (o + 1) G) [.ref o, .int x]) (QNi D lo n) (XCE D lo n (gw cy (gw cy (hw cy w o P) (o + 50) T) (o + 1) G) IAE) 1 6 (fun q : Nat => lo ≤ q) := by
  refine vx_ofW (cc := cX6_wouldGive) (maxL := 2) (ret := (some .int)) (by decide) rfl ?_
  intro p e s m args below meth c s₁ B hml ht hv
  obtain ⟨rfl, hP, hK, hX, hZ, hS⟩ := X_entry hv
  have hx := B.exec
  have hb := B.bytes
  have hr := B.returns
  have hts := atoms_spec (ws := wsX6_wouldGive) B.pre
  have hown : s.vm.findClass RX6 = some m.cls := findClass_of_methodNamed B.named
  have hlocks := B.notSynchronized
  have hl := lv_entry ([.ref o, .int x]) (n := 2) (Nat.le_of_ble_eq_true rfl)
  rw [lg_entry_eq]
  generalize (lg_sl ([.ref o, .int x]) ++ List.replicate (2 - (lg_sl ([.ref o, .int x])).length) Slot.unset).toArray = ls at hl ⊢
  have hl : lv_has ls 2 [(0, .ref o), (1, .int x)] := hl
  refine lv_iload_n hx hb dX6_wouldGive_0 rfl (lv_at hl 1 rfl) ?_
  refine lv_iconst (v := 1) hx hb dX6_wouldGive_1 (by decide) ?_
  refine lv_bipush (v := 12) hx hb dX6_wouldGive_2 (by decide) ?_
  exact x_xcallv (vx_runS (As := [.int x, .int (1 : Int32), .int (12 : Int32)]) (rest := []) ⟨hx, hb, hml, hown, hts⟩ (c_X6_needWithin_x l hfl D cy lo n (gw cy (gw cy (hw cy w o P) (o + 50) T) (o + 1) G) x (1 : Int32) (12 : Int32) (not_in hbad)) (va_cwS 3 hts gX6_wouldGive_X6_needWithin rfl rfl rfl (by decide +kernel) ⟨Nat.le_of_ble_eq_true rfl, Nat.le_of_ble_eq_true rfl⟩) (preSX hP hK hX hZ hS) rfl rfl hl.1 rfl (lv_room (Nat.le_of_ble_eq_true rfl)) dX6_wouldGive_4 ⟨Nat.le_of_ble_eq_true rfl, Nat.le_of_ble_eq_true rfl⟩) hS ht hlocks (Nat.le_of_ble_eq_true rfl) (Nat.le_of_ble_eq_true rfl)

set_option maxRecDepth 100000 in
set_option maxHeartbeats 1000000 in
theorem c_X6_shares_x1 (l : Launch) (hfl : l.stackTraces = false) (D : va_G) (cy : Nat → ClassId) (lo n : Nat) (w : Nat → va_E) (o : Nat) (G T P : Mem) (ho1 : lo ≤ o) (ho2 : o + 118 ≤ lo + n) (hdr : G 0 2 = 0) (x y : Int32) (hbad : ¬ ((0 ≤ x ∧ x ≤ 100) ∧ (0 ≤ y ∧ y ≤ 100 - x))) : vx_Met l yX6_shares wsX6_shares ({ frames := 7, cells := 1, slots := 6, locals := 112 }) (PcX D cy lo n (gw cy (gw cy (hw cy w o P) (o + 50) T) (o + 1) G) [.ref o, .int x, .int y]) (QNi D lo n) (XCE D lo n (gw cy (gw cy (hw cy w o P) (o + 50) T) (o + 1) G) IAE) 1 6 (fun q : Nat => lo ≤ q) := by
  refine vx_ofW (cc := cX6_shares) (maxL := 3) (ret := (some .int)) (by decide) rfl ?_
  intro p e s m args below meth c s₁ B hml ht hv
  obtain ⟨rfl, hP, hK, hX, hZ, hS⟩ := X_entry hv
  have hx := B.exec
  have hb := B.bytes
  have hr := B.returns
  have hts := atoms_spec (ws := wsX6_shares) B.pre
  have hown : s.vm.findClass RX6 = some m.cls := findClass_of_methodNamed B.named
  have hlocks := B.notSynchronized
  have hl := lv_entry ([.ref o, .int x, .int y]) (n := 3) (Nat.le_of_ble_eq_true rfl)
  rw [lg_entry_eq]
  generalize (lg_sl ([.ref o, .int x, .int y]) ++ List.replicate (3 - (lg_sl ([.ref o, .int x, .int y])).length) Slot.unset).toArray = ls at hl ⊢
  have hl : lv_has ls 3 [(0, .ref o), (1, .int x), (2, .int y)] := hl
  refine lv_iload_n hx hb dX6_shares_0 rfl (lv_at hl 1 rfl) ?_
  refine lv_iconst (v := 0) hx hb dX6_shares_1 (by decide) ?_
  refine lv_bipush (v := 100) hx hb dX6_shares_2 (by decide) ?_
  by_cases c_4 : (0 : Int32) ≤ x ∧ x ≤ (100 : Int32)
  · refine x_callv (va_runS (As := [.int x, .int (0 : Int32), .int (100 : Int32)]) (rest := []) ⟨hx, hb, hml, hown, hts⟩ (c_X6_needWithin l D cy lo n (gw cy (gw cy (hw cy w o P) (o + 50) T) (o + 1) G) x (0 : Int32) (100 : Int32) c_4.1 c_4.2) (va_cwS 3 hts gX6_shares_X6_needWithin rfl rfl rfl (by decide +kernel) ⟨Nat.le_of_ble_eq_true rfl, Nat.le_of_ble_eq_true rfl⟩) (preS hP hK) rfl rfl hl.1 rfl (lv_room (Nat.le_of_ble_eq_true rfl)) dX6_shares_4 ⟨Nat.le_of_ble_eq_true rfl, Nat.le_of_ble_eq_true rfl⟩) hS (fun H locs hP hS => ?_)
    refine lv_iload_n hx hb dX6_shares_7 rfl (lv_at hl 2 rfl) ?_
    refine lv_iconst (v := 0) hx hb dX6_shares_8 (by decide) ?_
    refine lv_bipush (v := 100) hx hb dX6_shares_9 (by decide) ?_
    refine lv_iload_n hx hb dX6_shares_11 rfl (lv_at hl 1 rfl) ?_
    refine lv_isub hx hb dX6_shares_12 ?_
    by_cases c_13 : (0 : Int32) ≤ y ∧ y ≤ ((100 : Int32) - x)
    · exact (hbad ⟨c_4, c_13⟩).elim
    · exact x_xcallv (vx_runS (As := [.int y, .int (0 : Int32), .int ((100 : Int32) - x)]) (rest := []) ⟨hx, hb, hml, hown, hts⟩ (c_X6_needWithin_x l hfl D cy lo n (gw cy (gw cy (hw cy w o P) (o + 50) T) (o + 1) G) y (0 : Int32) ((100 : Int32) - x) (not_in c_13)) (va_cwS 3 hts gX6_shares_X6_needWithin rfl rfl rfl (by decide +kernel) ⟨Nat.le_of_ble_eq_true rfl, Nat.le_of_ble_eq_true rfl⟩) (preSX hP hK hX hZ hS) rfl rfl hl.1 rfl (lv_room (Nat.le_of_ble_eq_true rfl)) dX6_shares_13 ⟨Nat.le_of_ble_eq_true rfl, Nat.le_of_ble_eq_true rfl⟩) hS ht hlocks (Nat.le_of_ble_eq_true rfl) (Nat.le_of_ble_eq_true rfl)
  · exact x_xcallv (vx_runS (As := [.int x, .int (0 : Int32), .int (100 : Int32)]) (rest := []) ⟨hx, hb, hml, hown, hts⟩ (c_X6_needWithin_x l hfl D cy lo n (gw cy (gw cy (hw cy w o P) (o + 50) T) (o + 1) G) x (0 : Int32) (100 : Int32) (not_in c_4)) (va_cwS 3 hts gX6_shares_X6_needWithin rfl rfl rfl (by decide +kernel) ⟨Nat.le_of_ble_eq_true rfl, Nat.le_of_ble_eq_true rfl⟩) (preSX hP hK hX hZ hS) rfl rfl hl.1 rfl (lv_room (Nat.le_of_ble_eq_true rfl)) dX6_shares_4 ⟨Nat.le_of_ble_eq_true rfl, Nat.le_of_ble_eq_true rfl⟩) hS ht hlocks (Nat.le_of_ble_eq_true rfl) (Nat.le_of_ble_eq_true rfl)

set_option maxRecDepth 100000 in
set_option maxHeartbeats 1000000 in
theorem c_X6_lift_x1 (l : Launch) (hfl : l.stackTraces = false) (D : va_G) (cy : Nat → ClassId) (lo n : Nat) (w : Nat → va_E) (o : Nat) (G T P : Mem) (ho1 : lo ≤ o) (ho2 : o + 118 ≤ lo + n) (hdr : G 0 2 = 0) (x y : Int32) (hbad : ¬ (0 ≤ x ∧ x ≤ 2)) : vx_Met l yX6_lift wsX6_lift ({ frames := 7, cells := 1, slots := 6, locals := 111 }) (PcX D cy lo n (gw cy (gw cy (hw cy w o P) (o + 50) T) (o + 1) G) [.ref o, .int x, .int y]) (QNi D lo n) (XCE D lo n (gw cy (gw cy (hw cy w o P) (o + 50) T) (o + 1) G) IOB) 1 6 (fun q : Nat => lo ≤ q) := by
  refine vx_ofW (cc := cX6_lift) (maxL := 4) (ret := (some .int)) (by decide) rfl ?_
  intro p e s m args below meth c s₁ B hml ht hv
  obtain ⟨rfl, hP, hK, hX, hZ, hS⟩ := X_entry hv
  have hx := B.exec
  have hb := B.bytes
  have hr := B.returns
  have hts := atoms_spec (ws := wsX6_lift) B.pre
  have hown : s.vm.findClass RX6 = some m.cls := findClass_of_methodNamed B.named
  have hlocks := B.notSynchronized
  have hl := lv_entry ([.ref o, .int x, .int y]) (n := 4) (Nat.le_of_ble_eq_true rfl)
  rw [lg_entry_eq]
  generalize (lg_sl ([.ref o, .int x, .int y]) ++ List.replicate (4 - (lg_sl ([.ref o, .int x, .int y])).length) Slot.unset).toArray = ls at hl ⊢
  have hl : lv_has ls 4 [(0, .ref o), (1, .int x), (2, .int y)] := hl
  refine lv_iload_n hx hb dX6_lift_0 rfl (lv_at hl 1 rfl) ?_
  refine lv_iconst (v := 3) hx hb dX6_lift_1 (by decide) ?_
  exact x_xcallv (vx_runS (As := [.int x, .int (3 : Int32)]) (rest := []) ⟨hx, hb, hml, hown, hts⟩ (c_X6_needIndex_x l hfl D cy lo n (gw cy (gw cy (hw cy w o P) (o + 50) T) (o + 1) G) x (3 : Int32) (not_ix up2 hbad)) (va_cwS 2 hts gX6_lift_X6_needIndex rfl rfl rfl (by decide +kernel) ⟨Nat.le_of_ble_eq_true rfl, Nat.le_of_ble_eq_true rfl⟩) (preSX hP hK hX hZ hS) rfl rfl hl.1 rfl (lv_room (Nat.le_of_ble_eq_true rfl)) dX6_lift_2 ⟨Nat.le_of_ble_eq_true rfl, Nat.le_of_ble_eq_true rfl⟩) hS ht hlocks (Nat.le_of_ble_eq_true rfl) (Nat.le_of_ble_eq_true rfl)

set_option maxRecDepth 100000 in
set_option maxHeartbeats 1000000 in
theorem c_X6_lift_x2 (l : Launch) (hfl : l.stackTraces = false) (D : va_G) (cy : Nat → ClassId) (lo n : Nat) (w : Nat → va_E) (o : Nat) (G T P : Mem) (ho1 : lo ≤ o) (ho2 : o + 118 ≤ lo + n) (hdr : G 0 2 = 0) (f : Nat) (hf : f < 3) (y : Int32) (hbad : ¬ (1 ≤ y ∧ y ≤ 999)) : vx_Met l yX6_lift wsX6_lift ({ frames := 7, cells := 1, slots := 6, locals := 112 }) (PcX D cy lo n (gw cy (gw cy (hw cy w o P) (o + 50) T) (o + 1) G) [.ref o, .int (nI f), .int y]) (QNi D lo n) (XCE D lo n (gw cy (gw cy (hw cy w o P) (o + 50) T) (o + 1) G) IAE) 1 6 (fun q : Nat => lo ≤ q) := by
  refine vx_ofW (cc := cX6_lift) (maxL := 4) (ret := (some .int)) (by decide) rfl ?_
  intro p e s m args below meth c s₁ B hml ht hv
  obtain ⟨rfl, hP, hK, hX, hZ, hS⟩ := X_entry hv
  have hx := B.exec
  have hb := B.bytes
  have hr := B.returns
  have hts := atoms_spec (ws := wsX6_lift) B.pre
  have hown : s.vm.findClass RX6 = some m.cls := findClass_of_methodNamed B.named
  have hlocks := B.notSynchronized
  have hl := lv_entry ([.ref o, .int (nI f), .int y]) (n := 4) (Nat.le_of_ble_eq_true rfl)
  rw [lg_entry_eq]
  generalize (lg_sl ([.ref o, .int (nI f), .int y]) ++ List.replicate (4 - (lg_sl ([.ref o, .int (nI f), .int y])).length) Slot.unset).toArray = ls at hl ⊢
  have hl : lv_has ls 4 [(0, .ref o), (1, .int (nI f)), (2, .int y)] := hl
  refine lv_iload_n hx hb dX6_lift_0 rfl (lv_at hl 1 rfl) ?_
  refine lv_iconst (v := 3) hx hb dX6_lift_1 (by decide) ?_
  refine x_callv (va_runS (As := [.int (nI f), .int (3 : Int32)]) (rest := []) ⟨hx, hb, hml, hown, hts⟩ (c_X6_needIndex l D cy lo n (gw cy (gw cy (hw cy w o P) (o + 50) T) (o + 1) G) f 3 (by omega) (by omega) (nI f) (3 : Int32) rfl rfl) (va_cwS 2 hts gX6_lift_X6_needIndex rfl rfl rfl (by decide +kernel) ⟨Nat.le_of_ble_eq_true rfl, Nat.le_of_ble_eq_true rfl⟩) (preS hP hK) rfl rfl hl.1 rfl (lv_room (Nat.le_of_ble_eq_true rfl)) dX6_lift_2 ⟨Nat.le_of_ble_eq_true rfl, Nat.le_of_ble_eq_true rfl⟩) hS (fun H locs hP hS => ?_)
  refine lv_iload_n hx hb dX6_lift_5 rfl (lv_at hl 2 rfl) ?_
  refine lv_iconst (v := 1) hx hb dX6_lift_6 (by decide) ?_
  refine lv_sipush (v := 999) hx hb dX6_lift_7 (by decide) ?_
  exact x_xcallv (vx_runS (As := [.int y, .int (1 : Int32), .int (999 : Int32)]) (rest := []) ⟨hx, hb, hml, hown, hts⟩ (c_X6_needWithin_x l hfl D cy lo n (gw cy (gw cy (hw cy w o P) (o + 50) T) (o + 1) G) y (1 : Int32) (999 : Int32) (not_in hbad)) (va_cwS 3 hts gX6_lift_X6_needWithin rfl rfl rfl (by decide +kernel) ⟨Nat.le_of_ble_eq_true rfl, Nat.le_of_ble_eq_true rfl⟩) (preSX hP hK hX hZ hS) rfl rfl hl.1 rfl (lv_room (Nat.le_of_ble_eq_true rfl)) dX6_lift_10 ⟨Nat.le_of_ble_eq_true rfl, Nat.le_of_ble_eq_true rfl⟩) hS ht hlocks (Nat.le_of_ble_eq_true rfl) (Nat.le_of_ble_eq_true rfl)

set_option maxRecDepth 100000 in
set_option maxHeartbeats 1000000 in
theorem c_X6_ofCell_x1 (l : Launch) (hfl : l.stackTraces = false) (D : va_G) (cy : Nat → ClassId) (lo n : Nat) (w : Nat → va_E) (o : Nat) (G T P : Mem) (ho1 : lo ≤ o) (ho2 : o + 118 ≤ lo + n) (hdr : G 0 2 = 0) (x y : Int32) (hbad : ¬ (0 ≤ x ∧ x ≤ 15)) : vx_Met l yX6_ofCell wsX6_ofCell ({ frames := 7, cells := 1, slots := 6, locals := 111 }) (PcX D cy lo n (gw cy (gw cy (hw cy w o P) (o + 50) T) (o + 1) G) [.ref o, .int x, .int y]) (QNi D lo n) (XCE D lo n (gw cy (gw cy (hw cy w o P) (o + 50) T) (o + 1) G) IOB) 1 6 (fun q : Nat => lo ≤ q) := by
  refine vx_ofW (cc := cX6_ofCell) (maxL := 4) (ret := (some .int)) (by decide) rfl ?_
  intro p e s m args below meth c s₁ B hml ht hv
  obtain ⟨rfl, hP, hK, hX, hZ, hS⟩ := X_entry hv
  have hx := B.exec
  have hb := B.bytes
  have hr := B.returns
  have hts := atoms_spec (ws := wsX6_ofCell) B.pre
  have hown : s.vm.findClass RX6 = some m.cls := findClass_of_methodNamed B.named
  have hlocks := B.notSynchronized
  have hl := lv_entry ([.ref o, .int x, .int y]) (n := 4) (Nat.le_of_ble_eq_true rfl)
  rw [lg_entry_eq]
  generalize (lg_sl ([.ref o, .int x, .int y]) ++ List.replicate (4 - (lg_sl ([.ref o, .int x, .int y])).length) Slot.unset).toArray = ls at hl ⊢
  have hl : lv_has ls 4 [(0, .ref o), (1, .int x), (2, .int y)] := hl
  refine lv_iload_n hx hb dX6_ofCell_0 rfl (lv_at hl 1 rfl) ?_
  refine lv_bipush (v := 16) hx hb dX6_ofCell_1 (by decide) ?_
  exact x_xcallv (vx_runS (As := [.int x, .int (16 : Int32)]) (rest := []) ⟨hx, hb, hml, hown, hts⟩ (c_X6_needIndex_x l hfl D cy lo n (gw cy (gw cy (hw cy w o P) (o + 50) T) (o + 1) G) x (16 : Int32) (not_ix up15 hbad)) (va_cwS 2 hts gX6_ofCell_X6_needIndex rfl rfl rfl (by decide +kernel) ⟨Nat.le_of_ble_eq_true rfl, Nat.le_of_ble_eq_true rfl⟩) (preSX hP hK hX hZ hS) rfl rfl hl.1 rfl (lv_room (Nat.le_of_ble_eq_true rfl)) dX6_ofCell_3 ⟨Nat.le_of_ble_eq_true rfl, Nat.le_of_ble_eq_true rfl⟩) hS ht hlocks (Nat.le_of_ble_eq_true rfl) (Nat.le_of_ble_eq_true rfl)

set_option maxRecDepth 100000 in
set_option maxHeartbeats 1000000 in
theorem c_X6_ofCell_x2 (l : Launch) (hfl : l.stackTraces = false) (D : va_G) (cy : Nat → ClassId) (lo n : Nat) (w : Nat → va_E) (o : Nat) (G T P : Mem) (ho1 : lo ≤ o) (ho2 : o + 118 ≤ lo + n) (hdr : G 0 2 = 0) (ce : Nat) (hc : ce < 16) (y : Int32) (hbad : ¬ (0 ≤ y ∧ y ≤ 4)) : vx_Met l yX6_ofCell wsX6_ofCell ({ frames := 7, cells := 1, slots := 6, locals := 112 }) (PcX D cy lo n (gw cy (gw cy (hw cy w o P) (o + 50) T) (o + 1) G) [.ref o, .int (nI ce), .int y]) (QNi D lo n) (XCE D lo n (gw cy (gw cy (hw cy w o P) (o + 50) T) (o + 1) G) IAE) 1 6 (fun q : Nat => lo ≤ q) := by
  refine vx_ofW (cc := cX6_ofCell) (maxL := 4) (ret := (some .int)) (by decide) rfl ?_
  intro p e s m args below meth c s₁ B hml ht hv
  obtain ⟨rfl, hP, hK, hX, hZ, hS⟩ := X_entry hv
  have hx := B.exec
  have hb := B.bytes
  have hr := B.returns
  have hts := atoms_spec (ws := wsX6_ofCell) B.pre
  have hown : s.vm.findClass RX6 = some m.cls := findClass_of_methodNamed B.named
  have hlocks := B.notSynchronized
  have hl := lv_entry ([.ref o, .int (nI ce), .int y]) (n := 4) (Nat.le_of_ble_eq_true rfl)
  rw [lg_entry_eq]
  generalize (lg_sl ([.ref o, .int (nI ce), .int y]) ++ List.replicate (4 - (lg_sl ([.ref o, .int (nI ce), .int y])).length) Slot.unset).toArray = ls at hl ⊢
  have hl : lv_has ls 4 [(0, .ref o), (1, .int (nI ce)), (2, .int y)] := hl
  refine lv_iload_n hx hb dX6_ofCell_0 rfl (lv_at hl 1 rfl) ?_
  refine lv_bipush (v := 16) hx hb dX6_ofCell_1 (by decide) ?_
  refine x_callv (va_runS (As := [.int (nI ce), .int (16 : Int32)]) (rest := []) ⟨hx, hb, hml, hown, hts⟩ (c_X6_needIndex l D cy lo n (gw cy (gw cy (hw cy w o P) (o + 50) T) (o + 1) G) ce 16 (by omega) (by omega) (nI ce) (16 : Int32) rfl rfl) (va_cwS 2 hts gX6_ofCell_X6_needIndex rfl rfl rfl (by decide +kernel) ⟨Nat.le_of_ble_eq_true rfl, Nat.le_of_ble_eq_true rfl⟩) (preS hP hK) rfl rfl hl.1 rfl (lv_room (Nat.le_of_ble_eq_true rfl)) dX6_ofCell_3 ⟨Nat.le_of_ble_eq_true rfl, Nat.le_of_ble_eq_true rfl⟩) hS (fun H locs hP hS => ?_)
  refine lv_iload_n hx hb dX6_ofCell_6 rfl (lv_at hl 2 rfl) ?_
  refine lv_iconst (v := 0) hx hb dX6_ofCell_7 (by decide) ?_
  refine lv_iconst (v := 4) hx hb dX6_ofCell_8 (by decide) ?_
  exact x_xcallv (vx_runS (As := [.int y, .int (0 : Int32), .int (4 : Int32)]) (rest := []) ⟨hx, hb, hml, hown, hts⟩ (c_X6_needWithin_x l hfl D cy lo n (gw cy (gw cy (hw cy w o P) (o + 50) T) (o + 1) G) y (0 : Int32) (4 : Int32) (not_in hbad)) (va_cwS 3 hts gX6_ofCell_X6_needWithin rfl rfl rfl (by decide +kernel) ⟨Nat.le_of_ble_eq_true rfl, Nat.le_of_ble_eq_true rfl⟩) (preSX hP hK hX hZ hS) rfl rfl hl.1 rfl (lv_room (Nat.le_of_ble_eq_true rfl)) dX6_ofCell_9 ⟨Nat.le_of_ble_eq_true rfl, Nat.le_of_ble_eq_true rfl⟩) hS ht hlocks (Nat.le_of_ble_eq_true rfl) (Nat.le_of_ble_eq_true rfl)

set_option maxRecDepth 100000 in
set_option maxHeartbeats 1000000 in
theorem c_X6_ofPartner_x1 (l : Launch) (hfl : l.stackTraces = false) (D : va_G) (cy : Nat → ClassId) (lo n : Nat) (w : Nat → va_E) (o : Nat) (G T P : Mem) (ho1 : lo ≤ o) (ho2 : o + 118 ≤ lo + n) (hdr : G 0 2 = 0) (x y : Int32) (hbad : ¬ (0 ≤ x ∧ x ≤ 2)) : vx_Met l yX6_ofPartner wsX6_ofPartner ({ frames := 7, cells := 1, slots := 6, locals := 111 }) (PcX D cy lo n (gw cy (gw cy (hw cy w o P) (o + 50) T) (o + 1) G) [.ref o, .int x, .int y]) (QNi D lo n) (XCE D lo n (gw cy (gw cy (hw cy w o P) (o + 50) T) (o + 1) G) IOB) 1 6 (fun q : Nat => lo ≤ q) := by
  refine vx_ofW (cc := cX6_ofPartner) (maxL := 4) (ret := (some .int)) (by decide) rfl ?_
  intro p e s m args below meth c s₁ B hml ht hv
  obtain ⟨rfl, hP, hK, hX, hZ, hS⟩ := X_entry hv
  have hx := B.exec
  have hb := B.bytes
  have hr := B.returns
  have hts := atoms_spec (ws := wsX6_ofPartner) B.pre
  have hown : s.vm.findClass RX6 = some m.cls := findClass_of_methodNamed B.named
  have hlocks := B.notSynchronized
  have hl := lv_entry ([.ref o, .int x, .int y]) (n := 4) (Nat.le_of_ble_eq_true rfl)
  rw [lg_entry_eq]
  generalize (lg_sl ([.ref o, .int x, .int y]) ++ List.replicate (4 - (lg_sl ([.ref o, .int x, .int y])).length) Slot.unset).toArray = ls at hl ⊢
  have hl : lv_has ls 4 [(0, .ref o), (1, .int x), (2, .int y)] := hl
  refine lv_iload_n hx hb dX6_ofPartner_0 rfl (lv_at hl 1 rfl) ?_
  refine lv_iconst (v := 3) hx hb dX6_ofPartner_1 (by decide) ?_
  exact x_xcallv (vx_runS (As := [.int x, .int (3 : Int32)]) (rest := []) ⟨hx, hb, hml, hown, hts⟩ (c_X6_needIndex_x l hfl D cy lo n (gw cy (gw cy (hw cy w o P) (o + 50) T) (o + 1) G) x (3 : Int32) (not_ix up2 hbad)) (va_cwS 2 hts gX6_ofPartner_X6_needIndex rfl rfl rfl (by decide +kernel) ⟨Nat.le_of_ble_eq_true rfl, Nat.le_of_ble_eq_true rfl⟩) (preSX hP hK hX hZ hS) rfl rfl hl.1 rfl (lv_room (Nat.le_of_ble_eq_true rfl)) dX6_ofPartner_2 ⟨Nat.le_of_ble_eq_true rfl, Nat.le_of_ble_eq_true rfl⟩) hS ht hlocks (Nat.le_of_ble_eq_true rfl) (Nat.le_of_ble_eq_true rfl)

set_option maxRecDepth 100000 in
set_option maxHeartbeats 1000000 in
theorem c_X6_ofPartner_x2 (l : Launch) (hfl : l.stackTraces = false) (D : va_G) (cy : Nat → ClassId) (lo n : Nat) (w : Nat → va_E) (o : Nat) (G T P : Mem) (ho1 : lo ≤ o) (ho2 : o + 118 ≤ lo + n) (hdr : G 0 2 = 0) (f : Nat) (hf : f < 3) (y : Int32) (hbad : ¬ (0 ≤ y ∧ y ≤ 3)) : vx_Met l yX6_ofPartner wsX6_ofPartner ({ frames := 7, cells := 1, slots := 6, locals := 112 }) (PcX D cy lo n (gw cy (gw cy (hw cy w o P) (o + 50) T) (o + 1) G) [.ref o, .int (nI f), .int y]) (QNi D lo n) (XCE D lo n (gw cy (gw cy (hw cy w o P) (o + 50) T) (o + 1) G) IAE) 1 6 (fun q : Nat => lo ≤ q) := by
  refine vx_ofW (cc := cX6_ofPartner) (maxL := 4) (ret := (some .int)) (by decide) rfl ?_
  intro p e s m args below meth c s₁ B hml ht hv
  obtain ⟨rfl, hP, hK, hX, hZ, hS⟩ := X_entry hv
  have hx := B.exec
  have hb := B.bytes
  have hr := B.returns
  have hts := atoms_spec (ws := wsX6_ofPartner) B.pre
  have hown : s.vm.findClass RX6 = some m.cls := findClass_of_methodNamed B.named
  have hlocks := B.notSynchronized
  have hl := lv_entry ([.ref o, .int (nI f), .int y]) (n := 4) (Nat.le_of_ble_eq_true rfl)
  rw [lg_entry_eq]
  generalize (lg_sl ([.ref o, .int (nI f), .int y]) ++ List.replicate (4 - (lg_sl ([.ref o, .int (nI f), .int y])).length) Slot.unset).toArray = ls at hl ⊢
  have hl : lv_has ls 4 [(0, .ref o), (1, .int (nI f)), (2, .int y)] := hl
  refine lv_iload_n hx hb dX6_ofPartner_0 rfl (lv_at hl 1 rfl) ?_
  refine lv_iconst (v := 3) hx hb dX6_ofPartner_1 (by decide) ?_
  refine x_callv (va_runS (As := [.int (nI f), .int (3 : Int32)]) (rest := []) ⟨hx, hb, hml, hown, hts⟩ (c_X6_needIndex l D cy lo n (gw cy (gw cy (hw cy w o P) (o + 50) T) (o + 1) G) f 3 (by omega) (by omega) (nI f) (3 : Int32) rfl rfl) (va_cwS 2 hts gX6_ofPartner_X6_needIndex rfl rfl rfl (by decide +kernel) ⟨Nat.le_of_ble_eq_true rfl, Nat.le_of_ble_eq_true rfl⟩) (preS hP hK) rfl rfl hl.1 rfl (lv_room (Nat.le_of_ble_eq_true rfl)) dX6_ofPartner_2 ⟨Nat.le_of_ble_eq_true rfl, Nat.le_of_ble_eq_true rfl⟩) hS (fun H locs hP hS => ?_)
  refine lv_iload_n hx hb dX6_ofPartner_5 rfl (lv_at hl 2 rfl) ?_
  refine lv_iconst (v := 0) hx hb dX6_ofPartner_6 (by decide) ?_
  refine lv_iconst (v := 3) hx hb dX6_ofPartner_7 (by decide) ?_
  exact x_xcallv (vx_runS (As := [.int y, .int (0 : Int32), .int (3 : Int32)]) (rest := []) ⟨hx, hb, hml, hown, hts⟩ (c_X6_needWithin_x l hfl D cy lo n (gw cy (gw cy (hw cy w o P) (o + 50) T) (o + 1) G) y (0 : Int32) (3 : Int32) (not_in hbad)) (va_cwS 3 hts gX6_ofPartner_X6_needWithin rfl rfl rfl (by decide +kernel) ⟨Nat.le_of_ble_eq_true rfl, Nat.le_of_ble_eq_true rfl⟩) (preSX hP hK hX hZ hS) rfl rfl hl.1 rfl (lv_room (Nat.le_of_ble_eq_true rfl)) dX6_ofPartner_8 ⟨Nat.le_of_ble_eq_true rfl, Nat.le_of_ble_eq_true rfl⟩) hS ht hlocks (Nat.le_of_ble_eq_true rfl) (Nat.le_of_ble_eq_true rfl)

set_option maxRecDepth 100000 in
set_option maxHeartbeats 1000000 in
theorem c_X6_keptBack_x1 (l : Launch) (hfl : l.stackTraces = false) (D : va_G) (cy : Nat → ClassId) (lo n : Nat) (w : Nat → va_E) (o : Nat) (G T P : Mem) (ho1 : lo ≤ o) (ho2 : o + 118 ≤ lo + n) (hdr : G 0 2 = 0) (x y z : Int32) (hbad : ¬ (0 ≤ x ∧ x ≤ 15)) : vx_Met l yX6_keptBack wsX6_keptBack ({ frames := 8, cells := 1, slots := 6, locals := 132 }) (PcX D cy lo n (gw cy (gw cy (hw cy w o P) (o + 50) T) (o + 1) G) [.ref o, .int x, .int y, .int z]) (QNi D lo n) (XCE D lo n (gw cy (gw cy (hw cy w o P) (o + 50) T) (o + 1) G) IOB) 1 6 (fun q : Nat => lo ≤ q) := by
  refine vx_ofW (cc := cX6_keptBack) (maxL := 5) (ret := (some .int)) (by decide) rfl ?_
  intro p e s m args below meth c s₁ B hml ht hv
  obtain ⟨rfl, hP, hK, hX, hZ, hS⟩ := X_entry hv
  have hx := B.exec
  have hb := B.bytes
  have hr := B.returns
  have hts := atoms_spec (ws := wsX6_keptBack) B.pre
  have hown : s.vm.findClass RX6 = some m.cls := findClass_of_methodNamed B.named
  have hlocks := B.notSynchronized
  have hl := lv_entry ([.ref o, .int x, .int y, .int z]) (n := 5) (Nat.le_of_ble_eq_true rfl)
  rw [lg_entry_eq]
  generalize (lg_sl ([.ref o, .int x, .int y, .int z]) ++ List.replicate (5 - (lg_sl ([.ref o, .int x, .int y, .int z])).length) Slot.unset).toArray = ls at hl ⊢
  have hl : lv_has ls 5 [(0, .ref o), (1, .int x), (2, .int y), (3, .int z)] := hl
  refine lv_iload_n hx hb dX6_keptBack_0 rfl (lv_at hl 1 rfl) ?_
  refine lv_iload_n hx hb dX6_keptBack_1 rfl (lv_at hl 2 rfl) ?_
  exact x_xcallv (vx_runS (As := [.int x, .int y]) (rest := []) ⟨hx, hb, hml, hown, hts⟩ (c_X6_needNeighbour_x1 l hfl D cy lo n (gw cy (gw cy (hw cy w o P) (o + 50) T) (o + 1) G) x y (not_ix up15 hbad)) (va_cwS 2 hts gX6_keptBack_X6_needNeighbour rfl rfl rfl (by decide +kernel) ⟨Nat.le_of_ble_eq_true rfl, Nat.le_of_ble_eq_true rfl⟩) (preSX hP hK hX hZ hS) rfl rfl hl.1 rfl (lv_room (Nat.le_of_ble_eq_true rfl)) dX6_keptBack_2 ⟨Nat.le_of_ble_eq_true rfl, Nat.le_of_ble_eq_true rfl⟩) hS ht hlocks (Nat.le_of_ble_eq_true rfl) (Nat.le_of_ble_eq_true rfl)

set_option maxRecDepth 100000 in
set_option maxHeartbeats 1000000 in
theorem c_X6_keptBack_x2 (l : Launch) (hfl : l.stackTraces = false) (D : va_G) (cy : Nat → ClassId) (lo n : Nat) (w : Nat → va_E) (o : Nat) (G T P : Mem) (ho1 : lo ≤ o) (ho2 : o + 118 ≤ lo + n) (hdr : G 0 2 = 0) (ce : Nat) (hc : ce < 16) (y z : Int32) (hbad : m_nb ce y = -1) : vx_Met l yX6_keptBack wsX6_keptBack ({ frames := 7, cells := 1, slots := 6, locals := 111 }) (PcX D cy lo n (gw cy (gw cy (hw cy w o P) (o + 50) T) (o + 1) G) [.ref o, .int (nI ce), .int y, .int z]) (QNi D lo n) (XCE D lo n (gw cy (gw cy (hw cy w o P) (o + 50) T) (o + 1) G) IOB) 1 6 (fun q : Nat => lo ≤ q) := by
  refine vx_ofW (cc := cX6_keptBack) (maxL := 5) (ret := (some .int)) (by decide) rfl ?_
  intro p e s m args below meth c s₁ B hml ht hv
  obtain ⟨rfl, hP, hK, hX, hZ, hS⟩ := X_entry hv
  have hx := B.exec
  have hb := B.bytes
  have hr := B.returns
  have hts := atoms_spec (ws := wsX6_keptBack) B.pre
  have hown : s.vm.findClass RX6 = some m.cls := findClass_of_methodNamed B.named
  have hlocks := B.notSynchronized
  have hl := lv_entry ([.ref o, .int (nI ce), .int y, .int z]) (n := 5) (Nat.le_of_ble_eq_true rfl)
  rw [lg_entry_eq]
  generalize (lg_sl ([.ref o, .int (nI ce), .int y, .int z]) ++ List.replicate (5 - (lg_sl ([.ref o, .int (nI ce), .int y, .int z])).length) Slot.unset).toArray = ls at hl ⊢
  have hl : lv_has ls 5 [(0, .ref o), (1, .int (nI ce)), (2, .int y), (3, .int z)] := hl
  refine lv_iload_n hx hb dX6_keptBack_0 rfl (lv_at hl 1 rfl) ?_
  refine lv_iload_n hx hb dX6_keptBack_1 rfl (lv_at hl 2 rfl) ?_
  exact x_xcallv (vx_runS (As := [.int (nI ce), .int y]) (rest := []) ⟨hx, hb, hml, hown, hts⟩ (c_X6_needNeighbour_x2 l hfl D cy lo n (gw cy (gw cy (hw cy w o P) (o + 50) T) (o + 1) G) ce (by omega) y hbad) (va_cwS 2 hts gX6_keptBack_X6_needNeighbour rfl rfl rfl (by decide +kernel) ⟨Nat.le_of_ble_eq_true rfl, Nat.le_of_ble_eq_true rfl⟩) (preSX hP hK hX hZ hS) rfl rfl hl.1 rfl (lv_room (Nat.le_of_ble_eq_true rfl)) dX6_keptBack_2 ⟨Nat.le_of_ble_eq_true rfl, Nat.le_of_ble_eq_true rfl⟩) hS ht hlocks (Nat.le_of_ble_eq_true rfl) (Nat.le_of_ble_eq_true rfl)

set_option maxRecDepth 100000 in
set_option maxHeartbeats 1000000 in
theorem c_X6_keptBack_x3 (l : Launch) (hfl : l.stackTraces = false) (D : va_G) (cy : Nat → ClassId) (lo n : Nat) (w : Nat → va_E) (o : Nat) (G T P : Mem) (ho1 : lo ≤ o) (ho2 : o + 118 ≤ lo + n) (hdr : G 0 2 = 0) (ce : Nat) (hc : ce < 16) (y z : Int32) (hnb0 : ¬ m_nb ce y = -1) (hbad : ¬ (1 ≤ z ∧ z ≤ 6)) : vx_Met l yX6_keptBack wsX6_keptBack ({ frames := 7, cells := 1, slots := 6, locals := 112 }) (PcX D cy lo n (gw cy (gw cy (hw cy w o P) (o + 50) T) (o + 1) G) [.ref o, .int (nI ce), .int y, .int z]) (QNi D lo n) (XCE D lo n (gw cy (gw cy (hw cy w o P) (o + 50) T) (o + 1) G) IAE) 1 6 (fun q : Nat => lo ≤ q) := by
  refine vx_ofW (cc := cX6_keptBack) (maxL := 5) (ret := (some .int)) (by decide) rfl ?_
  intro p e s m args below meth c s₁ B hml ht hv
  obtain ⟨rfl, hP, hK, hX, hZ, hS⟩ := X_entry hv
  have hx := B.exec
  have hb := B.bytes
  have hr := B.returns
  have hts := atoms_spec (ws := wsX6_keptBack) B.pre
  have hown : s.vm.findClass RX6 = some m.cls := findClass_of_methodNamed B.named
  have hlocks := B.notSynchronized
  have hl := lv_entry ([.ref o, .int (nI ce), .int y, .int z]) (n := 5) (Nat.le_of_ble_eq_true rfl)
  rw [lg_entry_eq]
  generalize (lg_sl ([.ref o, .int (nI ce), .int y, .int z]) ++ List.replicate (5 - (lg_sl ([.ref o, .int (nI ce), .int y, .int z])).length) Slot.unset).toArray = ls at hl ⊢
  have hl : lv_has ls 5 [(0, .ref o), (1, .int (nI ce)), (2, .int y), (3, .int z)] := hl
  refine lv_iload_n hx hb dX6_keptBack_0 rfl (lv_at hl 1 rfl) ?_
  refine lv_iload_n hx hb dX6_keptBack_1 rfl (lv_at hl 2 rfl) ?_
  refine x_callv (va_runS (As := [.int (nI ce), .int y]) (rest := []) ⟨hx, hb, hml, hown, hts⟩ (c_X6_needNeighbour l D cy lo n (gw cy (gw cy (hw cy w o P) (o + 50) T) (o + 1) G) ce (by omega) y hnb0) (va_cwS 2 hts gX6_keptBack_X6_needNeighbour rfl rfl rfl (by decide +kernel) ⟨Nat.le_of_ble_eq_true rfl, Nat.le_of_ble_eq_true rfl⟩) (preS hP hK) rfl rfl hl.1 rfl (lv_room (Nat.le_of_ble_eq_true rfl)) dX6_keptBack_2 ⟨Nat.le_of_ble_eq_true rfl, Nat.le_of_ble_eq_true rfl⟩) hS (fun H locs hP hS => ?_)
  refine lv_iload_n hx hb dX6_keptBack_5 rfl (lv_at hl 3 rfl) ?_
  refine lv_iconst (v := 1) hx hb dX6_keptBack_6 (by decide) ?_
  refine lv_bipush (v := 6) hx hb dX6_keptBack_7 (by decide) ?_
  exact x_xcallv (vx_runS (As := [.int z, .int (1 : Int32), .int (6 : Int32)]) (rest := []) ⟨hx, hb, hml, hown, hts⟩ (c_X6_needWithin_x l hfl D cy lo n (gw cy (gw cy (hw cy w o P) (o + 50) T) (o + 1) G) z (1 : Int32) (6 : Int32) (not_in hbad)) (va_cwS 3 hts gX6_keptBack_X6_needWithin rfl rfl rfl (by decide +kernel) ⟨Nat.le_of_ble_eq_true rfl, Nat.le_of_ble_eq_true rfl⟩) (preSX hP hK hX hZ hS) rfl rfl hl.1 rfl (lv_room (Nat.le_of_ble_eq_true rfl)) dX6_keptBack_9 ⟨Nat.le_of_ble_eq_true rfl, Nat.le_of_ble_eq_true rfl⟩) hS ht hlocks (Nat.le_of_ble_eq_true rfl) (Nat.le_of_ble_eq_true rfl)

set_option maxRecDepth 100000 in
set_option maxHeartbeats 1000000 in
theorem c_X6_mayLift_x1 (l : Launch) (hfl : l.stackTraces = false) (D : va_G) (cy : Nat → ClassId) (lo n : Nat) (w : Nat → va_E) (o : Nat) (G T P : Mem) (ho1 : lo ≤ o) (ho2 : o + 118 ≤ lo + n) (hdr : G 0 2 = 0) (x : Int32) (hbad : ¬ (0 ≤ x ∧ x ≤ 2)) : vx_Met l yX6_mayLift wsX6_mayLift ({ frames := 7, cells := 1, slots := 6, locals := 111 }) (PcX D cy lo n (gw cy (gw cy (hw cy w o P) (o + 50) T) (o + 1) G) [.ref o, .int x]) (QNi D lo n) (XCE D lo n (gw cy (gw cy (hw cy w o P) (o + 50) T) (o + 1) G) IOB) 1 6 (fun q : Nat => lo ≤ q) := by
  refine vx_ofW (cc := cX6_mayLift) (maxL := 3) (ret := (some .int)) (by decide) rfl ?_
  intro p e s m args below meth c s₁ B hml ht hv
  obtain ⟨rfl, hP, hK, hX, hZ, hS⟩ := X_entry hv
  have hx := B.exec
  have hb := B.bytes
  have hr := B.returns
  have hts := atoms_spec (ws := wsX6_mayLift) B.pre
  have hown : s.vm.findClass RX6 = some m.cls := findClass_of_methodNamed B.named
  have hlocks := B.notSynchronized
  have hl := lv_entry ([.ref o, .int x]) (n := 3) (Nat.le_of_ble_eq_true rfl)
  rw [lg_entry_eq]
  generalize (lg_sl ([.ref o, .int x]) ++ List.replicate (3 - (lg_sl ([.ref o, .int x])).length) Slot.unset).toArray = ls at hl ⊢
  have hl : lv_has ls 3 [(0, .ref o), (1, .int x)] := hl
  refine lv_iload_n hx hb dX6_mayLift_0 rfl (lv_at hl 1 rfl) ?_
  refine lv_iconst (v := 3) hx hb dX6_mayLift_1 (by decide) ?_
  exact x_xcallv (vx_runS (As := [.int x, .int (3 : Int32)]) (rest := []) ⟨hx, hb, hml, hown, hts⟩ (c_X6_needIndex_x l hfl D cy lo n (gw cy (gw cy (hw cy w o P) (o + 50) T) (o + 1) G) x (3 : Int32) (not_ix up2 hbad)) (va_cwS 2 hts gX6_mayLift_X6_needIndex rfl rfl rfl (by decide +kernel) ⟨Nat.le_of_ble_eq_true rfl, Nat.le_of_ble_eq_true rfl⟩) (preSX hP hK hX hZ hS) rfl rfl hl.1 rfl (lv_room (Nat.le_of_ble_eq_true rfl)) dX6_mayLift_2 ⟨Nat.le_of_ble_eq_true rfl, Nat.le_of_ble_eq_true rfl⟩) hS ht hlocks (Nat.le_of_ble_eq_true rfl) (Nat.le_of_ble_eq_true rfl)
