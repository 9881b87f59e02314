/-! the throws of the class -/
set_option maxRecDepth 100000 in
set_option maxHeartbeats 1000000 in
/-- needIndex, where there is none -/
theorem c_X6_needIndex_x (l : Launch) (hfl : l.stackTraces = false) (D : va_G) (cy : Nat → ClassId) (lo n : Nat) (w : Nat → va_E) (x N : Int32) (hbad : x < 0 ∨ N ≤ x) : vx_Met l yX6_needIndex wsX6_needIndex ({ frames := 6, cells := 1, slots := 6, locals := 90 }) (PcX D cy lo n w [.int x, .int N]) (QNv D lo n) (XCE D lo n w IOB) 1 6 (fun q : Nat => lo ≤ q) := by
  refine vx_ofW (cc := cX6_needIndex) (maxL := 2) (ret := none) (by decide) rfl ?_
  intro p e s m args below meth c s₁ B hml ht hv
  obtain ⟨rfl, hP, hK, hX, hZ, hS⟩ := X_entry hv
  have hx := B.exec
  have hb := B.bytes
  have hr := B.returns
  have hts := atoms_spec (ws := wsX6_needIndex) B.pre
  have hown : s.vm.findClass RX6 = some m.cls := findClass_of_methodNamed B.named
  have hlocks := B.notSynchronized
  have hl := lv_entry ([.int x, .int N]) (n := 2) (Nat.le_of_ble_eq_true rfl)
  rw [lg_entry_eq]
  generalize (lg_sl ([.int x, .int N]) ++ List.replicate (2 - (lg_sl ([.int x, .int N])).length) Slot.unset).toArray = ls at hl ⊢
  have hl : lv_has ls 2 [(0, .int x), (1, .int N)] := hl
  refine lv_iload_n hx hb dX6_needIndex_0 rfl (lv_at hl 0 rfl) ?_
  refine lv_if_lt (tgt := 9) hx hb dX6_needIndex_1 (by decide) (fun c_1 => ?_) (fun c_1 => ?_)
  · obtain ⟨sa9, hsa9⟩ := hX.2.2.1
    exact x_throw hx hb hfl (cls := IOB) (rest := []) (ik := 273) (is := 275) (ic := 277) hown (by decide +kernel) (hts (.classLink RX6 273 IOB) (by decide +kernel)) (hts (.initialized IOB) (by decide +kernel)) hsa9 (fun w hw => hts w (by exact List.mem_cons_of_mem _ (List.mem_append_right _ hw))) xw_mv1 hX.1 (by decide +kernel) hZ hP hS (hl.1.trans hml.symm) dX6_needIndex_9 dX6_needIndex_12 dX6_needIndex_13 dX6_needIndex_16 dX6_needIndex_19 ht hlocks (Nat.le_of_ble_eq_true rfl) (Nat.le_of_ble_eq_true rfl) (Nat.le_of_ble_eq_true rfl) (Nat.le_of_ble_eq_true rfl) (Nat.le_of_ble_eq_true rfl) (Nat.le_of_ble_eq_true rfl)
  · refine lv_iload_n hx hb dX6_needIndex_4 rfl (lv_at hl 0 rfl) ?_
    refine lv_iload_n hx hb dX6_needIndex_5 rfl (lv_at hl 1 rfl) ?_
    refine lv_icmp_lt (tgt := 20) hx hb dX6_needIndex_6 (by decide) (fun h => absurd h (Int32.not_lt.mpr (hbad.resolve_left c_1))) (fun _ => ?_)
    obtain ⟨sa9, hsa9⟩ := hX.2.2.1
    exact x_throw hx hb hfl (cls := IOB) (rest := []) (ik := 273) (is := 275) (ic := 277) hown (by decide +kernel) (hts (.classLink RX6 273 IOB) (by decide +kernel)) (hts (.initialized IOB) (by decide +kernel)) hsa9 (fun w hw => hts w (by exact List.mem_cons_of_mem _ (List.mem_append_right _ hw))) xw_mv1 hX.1 (by decide +kernel) hZ hP hS (hl.1.trans hml.symm) dX6_needIndex_9 dX6_needIndex_12 dX6_needIndex_13 dX6_needIndex_16 dX6_needIndex_19 ht hlocks (Nat.le_of_ble_eq_true rfl) (Nat.le_of_ble_eq_true rfl) (Nat.le_of_ble_eq_true rfl) (Nat.le_of_ble_eq_true rfl) (Nat.le_of_ble_eq_true rfl) (Nat.le_of_ble_eq_true rfl)

set_option maxRecDepth 100000 in
set_option maxHeartbeats 1000000 in
/-- needWithin, where it is not -/
theorem c_X6_needWithin_x (l : Launch) (hfl : l.stackTraces = false) (D : va_G) (cy : Nat → ClassId) (lo n : Nat) (w : Nat → va_E) (x a b : Int32) (hbad : x < a ∨ b < x) : vx_Met l yX6_needWithin wsX6_needWithin ({ frames := 6, cells := 1, slots := 6, locals := 90 }) (PcX D cy lo n w [.int x, .int a, .int b]) (QNv D lo n) (XCE D lo n w IAE) 1 6 (fun q : Nat => lo ≤ q) := by
  refine vx_ofW (cc := cX6_needWithin) (maxL := 3) (ret := none) (by decide) rfl ?_
  intro p e s m args below meth c s₁ B hml ht hv
  obtain ⟨rfl, hP, hK, hX, hZ, hS⟩ := X_entry hv
  have hx := B.exec
  have hb := B.bytes
  have hr := B.returns
  have hts := atoms_spec (ws := wsX6_needWithin) B.pre
  have hown : s.vm.findClass RX6 = some m.cls := findClass_of_methodNamed B.named
  have hlocks := B.notSynchronized
  have hl := lv_entry ([.int x, .int a, .int b]) (n := 3) (Nat.le_of_ble_eq_true rfl)
  rw [lg_entry_eq]
  generalize (lg_sl ([.int x, .int a, .int b]) ++ List.replicate (3 - (lg_sl ([.int x, .int a, .int b])).length) Slot.unset).toArray = ls at hl ⊢
  have hl : lv_has ls 3 [(0, .int x), (1, .int a), (2, .int b)] := hl
  refine lv_iload_n hx hb dX6_needWithin_0 rfl (lv_at hl 0 rfl) ?_
  refine lv_iload_n hx hb dX6_needWithin_1 rfl (lv_at hl 1 rfl) ?_
  refine lv_icmp_lt (tgt := 10) hx hb dX6_needWithin_2 (by decide) (fun c_2 => ?_) (fun c_2 => ?_)
  · obtain ⟨sa9, hsa9⟩ := hX.2.2.2.2
    exact x_throw hx hb hfl (cls := IAE) (rest := []) (ik := 284) (is := 286) (ic := 288) hown (by decide +kernel) (hts (.classLink RX6 284 IAE) (by decide +kernel)) (hts (.initialized IAE) (by decide +kernel)) hsa9 (fun w hw => hts w (by exact List.mem_cons_of_mem _ (List.mem_append_right _ hw))) xw_mv2 hX.2.1 (by decide +kernel) hZ hP hS (hl.1.trans hml.symm) dX6_needWithin_10 dX6_needWithin_13 dX6_needWithin_14 dX6_needWithin_17 dX6_needWithin_20 ht hlocks (Nat.le_of_ble_eq_true rfl) (Nat.le_of_ble_eq_true rfl) (Nat.le_of_ble_eq_true rfl) (Nat.le_of_ble_eq_true rfl) (Nat.le_of_ble_eq_true rfl) (Nat.le_of_ble_eq_true rfl)
  · refine lv_iload_n hx hb dX6_needWithin_5 rfl (lv_at hl 0 rfl) ?_
    refine lv_iload_n hx hb dX6_needWithin_6 rfl (lv_at hl 2 rfl) ?_
    refine lv_icmp_le (tgt := 21) hx hb dX6_needWithin_7 (by decide) (fun h => absurd h (fun h9 => absurd (hbad.resolve_left c_2) (Int32.not_lt.mpr h9))) (fun _ => ?_)
    obtain ⟨sa9, hsa9⟩ := hX.2.2.2.2
    exact x_throw hx hb hfl (cls := IAE) (rest := []) (ik := 284) (is := 286) (ic := 288) hown (by decide +kernel) (hts (.classLink RX6 284 IAE) (by decide +kernel)) (hts (.initialized IAE) (by decide +kernel)) hsa9 (fun w hw => hts w (by exact List.mem_cons_of_mem _ (List.mem_append_right _ hw))) xw_mv2 hX.2.1 (by decide +kernel) hZ hP hS (hl.1.trans hml.symm) dX6_needWithin_10 dX6_needWithin_13 dX6_needWithin_14 dX6_needWithin_17 dX6_needWithin_20 ht hlocks (Nat.le_of_ble_eq_true rfl) (Nat.le_of_ble_eq_true rfl) (Nat.le_of_ble_eq_true rfl) (Nat.le_of_ble_eq_true rfl) (Nat.le_of_ble_eq_true rfl) (Nat.le_of_ble_eq_true rfl)

set_option maxRecDepth 100000 in
set_option maxHeartbeats 1000000 in
/-- needNeighbour, no cell -/
theorem c_X6_needNeighbour_x1 (l : Launch) (hfl : l.stackTraces = false) (D : va_G) (cy : Nat → ClassId) (lo n : Nat) (w : Nat → va_E) (x y : Int32) (hbad : x < 0 ∨ 16 ≤ x) : vx_Met l yX6_needNeighbour wsX6_needNeighbour ({ frames := 7, cells := 1, slots := 6, locals := 111 }) (PcX D cy lo n w [.int x, .int y]) (QNv D lo n) (XCE D lo n w IOB) 1 6 (fun q : Nat => lo ≤ q) := by
  refine vx_ofW (cc := cX6_needNeighbour) (maxL := 2) (ret := none) (by decide) rfl ?_
  intro p e s m args below meth c s₁ B hml ht hv
  obtain ⟨rfl, hP, hK, hX, hZ, hS⟩ := X_entry hv
  have hx := B.exec
  have hb := B.bytes
  have hr := B.returns
  have hts := atoms_spec (ws := wsX6_needNeighbour) B.pre
  have hown : s.vm.findClass RX6 = some m.cls := findClass_of_methodNamed B.named
  have hlocks := B.notSynchronized
  have hl := lv_entry ([.int x, .int y]) (n := 2) (Nat.le_of_ble_eq_true rfl)
  rw [lg_entry_eq]
  generalize (lg_sl ([.int x, .int y]) ++ List.replicate (2 - (lg_sl ([.int x, .int y])).length) Slot.unset).toArray = ls at hl ⊢
  have hl : lv_has ls 2 [(0, .int x), (1, .int y)] := hl
  refine lv_iload_n hx hb dX6_needNeighbour_0 rfl (lv_at hl 0 rfl) ?_
  refine lv_bipush (v := 16) hx hb dX6_needNeighbour_1 (by decide) ?_
  exact x_xcallv (vx_runS (As := [.int x, .int (16 : Int32)]) (rest := []) ⟨hx, hb, hml, hown, hts⟩ (c_X6_needIndex_x l hfl D cy lo n w x (16 : Int32) hbad) (va_cwS 2 hts gX6_needNeighbour_X6_needIndex rfl rfl rfl (by decide +kernel) ⟨Nat.le_of_ble_eq_true rfl, Nat.le_of_ble_eq_true rfl⟩) (preSX hP hK hX hZ hS) rfl rfl hl.1 rfl (lv_room (Nat.le_of_ble_eq_true rfl)) dX6_needNeighbour_3 ⟨Nat.le_of_ble_eq_true rfl, Nat.le_of_ble_eq_true rfl⟩) hS ht hlocks (Nat.le_of_ble_eq_true rfl) (Nat.le_of_ble_eq_true rfl)

set_option maxRecDepth 100000 in
set_option maxHeartbeats 1000000 in
/-- needNeighbour, none beside it -/
theorem c_X6_needNeighbour_x2 (l : Launch) (hfl : l.stackTraces = false) (D : va_G) (cy : Nat → ClassId) (lo n : Nat) (w : Nat → va_E) (ce : Nat) (hc : ce < 16) (y : Int32) (hbad : m_nb ce y = -1) : vx_Met l yX6_needNeighbour wsX6_needNeighbour ({ frames := 6, cells := 1, slots := 6, locals := 90 }) (PcX D cy lo n w [.int (nI ce), .int y]) (QNv D lo n) (XCE D lo n w IOB) 1 6 (fun q : Nat => lo ≤ q) := by
  refine vx_ofW (cc := cX6_needNeighbour) (maxL := 2) (ret := none) (by decide) rfl ?_
  intro p e s m args below meth c s₁ B hml ht hv
  obtain ⟨rfl, hP, hK, hX, hZ, hS⟩ := X_entry hv
  have hx := B.exec
  have hb := B.bytes
  have hr := B.returns
  have hts := atoms_spec (ws := wsX6_needNeighbour) B.pre
  have hown : s.vm.findClass RX6 = some m.cls := findClass_of_methodNamed B.named
  have hlocks := B.notSynchronized
  have hl := lv_entry ([.int (nI ce), .int y]) (n := 2) (Nat.le_of_ble_eq_true rfl)
  rw [lg_entry_eq]
  generalize (lg_sl ([.int (nI ce), .int y]) ++ List.replicate (2 - (lg_sl ([.int (nI ce), .int y])).length) Slot.unset).toArray = ls at hl ⊢
  have hl : lv_has ls 2 [(0, .int (nI ce)), (1, .int y)] := hl
  refine lv_iload_n hx hb dX6_needNeighbour_0 rfl (lv_at hl 0 rfl) ?_
  refine lv_bipush (v := 16) hx hb dX6_needNeighbour_1 (by decide) ?_
  refine x_callv (va_runS (As := [.int (nI ce), .int (16 : Int32)]) (rest := []) ⟨hx, hb, hml, hown, hts⟩ (c_X6_needIndex l D cy lo n w ce 16 (by omega) (by omega) (nI ce) (16 : Int32) rfl rfl) (va_cwS 2 hts gX6_needNeighbour_X6_needIndex rfl rfl rfl (by decide +kernel) ⟨Nat.le_of_ble_eq_true rfl, Nat.le_of_ble_eq_true rfl⟩) (preS hP hK) rfl rfl hl.1 rfl (lv_room (Nat.le_of_ble_eq_true rfl)) dX6_needNeighbour_3 ⟨Nat.le_of_ble_eq_true rfl, Nat.le_of_ble_eq_true rfl⟩) hS (fun H locs hP hS => ?_)
  refine lv_iload_n hx hb dX6_needNeighbour_6 rfl (lv_at hl 0 rfl) ?_
  refine lv_iload_n hx hb dX6_needNeighbour_7 rfl (lv_at hl 1 rfl) ?_
  refine x_calli (va_runS (As := [.int (nI ce), .int y]) (rest := []) ⟨hx, hb, hml, hown, hts⟩ (c_X6_neighbour l D cy lo n w ce (by omega) y) (va_cwS 2 hts gX6_needNeighbour_X6_neighbour rfl rfl rfl (by decide +kernel) ⟨Nat.le_of_ble_eq_true rfl, Nat.le_of_ble_eq_true rfl⟩) (preS hP hK) rfl rfl hl.1 rfl (lv_room (Nat.le_of_ble_eq_true rfl)) dX6_needNeighbour_8 ⟨Nat.le_of_ble_eq_true rfl, Nat.le_of_ble_eq_true rfl⟩) hS (fun H locs hP hS => ?_)
  refine lv_iconst (v := -1) hx hb dX6_needNeighbour_11 (by decide) ?_
  refine lv_icmp_ne (tgt := 26) hx hb dX6_needNeighbour_12 (by decide) (fun h => absurd hbad h) (fun _ => ?_)
  obtain ⟨sa9, hsa9⟩ := hX.2.2.2.1
  exact x_throw hx hb hfl (cls := IOB) (rest := []) (ik := 273) (is := 282) (ic := 277) hown (by decide +kernel) (hts (.classLink RX6 273 IOB) (by decide +kernel)) (hts (.initialized IOB) (by decide +kernel)) hsa9 (fun w hw => hts w (by exact List.mem_cons_of_mem _ (List.mem_append_right _ hw))) xw_mv1 hX.1 (by decide +kernel) hZ hP hS (hl.1.trans hml.symm) dX6_needNeighbour_15 dX6_needNeighbour_18 dX6_needNeighbour_19 dX6_needNeighbour_22 dX6_needNeighbour_25 ht hlocks (Nat.le_of_ble_eq_true rfl) (Nat.le_of_ble_eq_true rfl) (Nat.le_of_ble_eq_true rfl) (Nat.le_of_ble_eq_true rfl) (Nat.le_of_ble_eq_true rfl) (Nat.le_of_ble_eq_true rfl)
