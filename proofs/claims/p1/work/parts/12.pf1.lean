set_option maxRecDepth 100000 in
set_option maxHeartbeats 4000000 in
/-- needIndex, where there is one -/
theorem c_X6_needIndex (l : Launch) (D : va_G) (cy : Nat → ClassId) (lo n : Nat) (w0 : Nat → va_E) (i N : Nat) (hi : i < N) (hN : N < 2 ^ 31) (x y : Int32) (hx0 : x = nI i) (hy0 : y = nI N) : Met l yX6_needIndex wsX6_needIndex ({ frames := 0, cells := 0, slots := 0, locals := 0 }) (PcW D cy lo n w0 [.int x, .int y]) (QvW D lo n w0) 0 0 (fun q : Nat => lo ≤ q) := by
  refine Met.ofW (cc := cX6_needIndex) (maxL := 2) (ret := none) (by decide) rfl ?_
  intro p e s m args below meth c s₁ B hml hv
  obtain ⟨rfl, hP, hK, hS⟩ := x_entry hv
  have hx := B.exec
  have hb := B.bytes
  have hr := B.returns
  have hts := atoms_spec (ws := wsX6_needIndex) B.pre
  have hown : s.vm.findClass RX6 = some m.cls := findClass_of_methodNamed B.named
  have hlocks := B.notSynchronized
  have hl := lv_entry ([.int x, .int y]) (n := 2) (Nat.le_of_ble_eq_true rfl)
  rw [lg_entry_eq]
  generalize (lg_sl ([.int x, .int y]) ++ List.replicate (2 - (lg_sl ([.int x, .int y])).length) Slot.unset).toArray = ls at hl ⊢
  have hl : lv_has ls 2 [(0, .int x), (1, .int y)] := hl
  refine lv_iload_n hx hb dX6_needIndex_0 rfl (lv_at hl 0 rfl) ?_
  refine lv_if_lt (tgt := 9) hx hb dX6_needIndex_1 (by decide) (fun c => absurd c (by rw [hx0]; exact nI_pos (by omega))) (fun _ => ?_)
  refine lv_iload_n hx hb dX6_needIndex_4 rfl (lv_at hl 0 rfl) ?_
  refine lv_iload_n hx hb dX6_needIndex_5 rfl (lv_at hl 1 rfl) ?_
  refine lv_icmp_lt (tgt := 20) hx hb dX6_needIndex_6 (by decide) (fun _ => ?_) (fun c => absurd ((br_lt hx0 hy0 (by omega) hN).mpr hi) c)
  exact W.vret hx hb hr (fun tE ht hW => ⟨⟨(), rfl, trivial, x_at ht (hP)⟩, hS.F ht⟩) hS.2.2 dX6_needIndex_20

set_option maxRecDepth 100000 in
set_option maxHeartbeats 4000000 in
/-- needWithin, where it is -/
theorem c_X6_needWithin (l : Launch) (D : va_G) (cy : Nat → ClassId) (lo n : Nat) (w0 : Nat → va_E) (x a b : Int32) (h1 : a ≤ x) (h2 : x ≤ b) : Met l yX6_needWithin wsX6_needWithin ({ frames := 0, cells := 0, slots := 0, locals := 0 }) (PcW D cy lo n w0 [.int x, .int a, .int b]) (QvW D lo n w0) 0 0 (fun q : Nat => lo ≤ q) := by
  refine Met.ofW (cc := cX6_needWithin) (maxL := 3) (ret := none) (by decide) rfl ?_
  intro p e s m args below meth c s₁ B hml hv
  obtain ⟨rfl, hP, hK, hS⟩ := x_entry hv
  have hx := B.exec
  have hb := B.bytes
  have hr := B.returns
  have hts := atoms_spec (ws := wsX6_needWithin) B.pre
  have hown : s.vm.findClass RX6 = some m.cls := findClass_of_methodNamed B.named
  have hlocks := B.notSynchronized
  have hl := lv_entry ([.int x, .int a, .int b]) (n := 3) (Nat.le_of_ble_eq_true rfl)
  rw [lg_entry_eq]
  generalize (lg_sl ([.int x, .int a, .int b]) ++ List.replicate (3 - (lg_sl ([.int x, .int a, .int b])).length) Slot.unset).toArray = ls at hl ⊢
  have hl : lv_has ls 3 [(0, .int x), (1, .int a), (2, .int b)] := hl
  refine lv_iload_n hx hb dX6_needWithin_0 rfl (lv_at hl 0 rfl) ?_
  refine lv_iload_n hx hb dX6_needWithin_1 rfl (lv_at hl 1 rfl) ?_
  refine lv_icmp_lt (tgt := 10) hx hb dX6_needWithin_2 (by decide) (fun c => absurd c (Int32.not_lt.mpr h1)) (fun _ => ?_)
  refine lv_iload_n hx hb dX6_needWithin_5 rfl (lv_at hl 0 rfl) ?_
  refine lv_iload_n hx hb dX6_needWithin_6 rfl (lv_at hl 2 rfl) ?_
  refine lv_icmp_le (tgt := 21) hx hb dX6_needWithin_7 (by decide) (fun _ => ?_) (fun c => absurd h2 c)
  exact W.vret hx hb hr (fun tE ht hW => ⟨⟨(), rfl, trivial, x_at ht (hP)⟩, hS.F ht⟩) hS.2.2 dX6_needWithin_21

set_option maxRecDepth 100000 in
set_option maxHeartbeats 4000000 in
/-- needNeighbour, where there is one -/
theorem c_X6_needNeighbour (l : Launch) (D : va_G) (cy : Nat → ClassId) (lo n : Nat) (w0 : Nat → va_E) (ce : Nat) (hc : ce < 16) (b : Int32) (hnb0 : ¬ m_nb ce b = -1) : Met l yX6_needNeighbour wsX6_needNeighbour ({ frames := 1, cells := 0, slots := 0, locals := 21 }) (PcW D cy lo n w0 [.int (nI ce), .int b]) (QvW D lo n w0) 0 0 (fun q : Nat => lo ≤ q) := by
  refine Met.ofW (cc := cX6_needNeighbour) (maxL := 2) (ret := none) (by decide) rfl ?_
  intro p e s m args below meth c s₁ B hml hv
  obtain ⟨rfl, hP, hK, hS⟩ := x_entry hv
  have hx := B.exec
  have hb := B.bytes
  have hr := B.returns
  have hts := atoms_spec (ws := wsX6_needNeighbour) B.pre
  have hown : s.vm.findClass RX6 = some m.cls := findClass_of_methodNamed B.named
  have hlocks := B.notSynchronized
  have hl := lv_entry ([.int (nI ce), .int b]) (n := 2) (Nat.le_of_ble_eq_true rfl)
  rw [lg_entry_eq]
  generalize (lg_sl ([.int (nI ce), .int b]) ++ List.replicate (2 - (lg_sl ([.int (nI ce), .int b])).length) Slot.unset).toArray = ls at hl ⊢
  have hl : lv_has ls 2 [(0, .int (nI ce)), (1, .int b)] := hl
  refine lv_iload_n hx hb dX6_needNeighbour_0 rfl (lv_at hl 0 rfl) ?_
  refine lv_bipush (v := 16) hx hb dX6_needNeighbour_1 (by decide) ?_
  refine x_callv (va_runS (As := [.int (nI ce), .int (16 : Int32)]) (rest := []) ⟨hx, hb, hml, hown, hts⟩ (c_X6_needIndex l D cy lo n w0 ce 16 (by omega) (by omega) (nI ce) (16 : Int32) rfl rfl) (va_cwS 2 hts gX6_needNeighbour_X6_needIndex rfl rfl rfl (by decide +kernel) ⟨Nat.le_of_ble_eq_true rfl, Nat.le_of_ble_eq_true rfl⟩) (preS hP hK) rfl rfl hl.1 rfl (lv_room (Nat.le_of_ble_eq_true rfl)) dX6_needNeighbour_3 ⟨Nat.le_of_ble_eq_true rfl, Nat.le_of_ble_eq_true rfl⟩) hS (fun H locs hP hS => ?_)
  refine lv_iload_n hx hb dX6_needNeighbour_6 rfl (lv_at hl 0 rfl) ?_
  refine lv_iload_n hx hb dX6_needNeighbour_7 rfl (lv_at hl 1 rfl) ?_
  refine x_calli (va_runS (As := [.int (nI ce), .int b]) (rest := []) ⟨hx, hb, hml, hown, hts⟩ (c_X6_neighbour l D cy lo n w0 ce (by omega) b) (va_cwS 2 hts gX6_needNeighbour_X6_neighbour rfl rfl rfl (by decide +kernel) ⟨Nat.le_of_ble_eq_true rfl, Nat.le_of_ble_eq_true rfl⟩) (preS hP hK) rfl rfl hl.1 rfl (lv_room (Nat.le_of_ble_eq_true rfl)) dX6_needNeighbour_8 ⟨Nat.le_of_ble_eq_true rfl, Nat.le_of_ble_eq_true rfl⟩) hS (fun H locs hP hS => ?_)
  refine lv_iconst (v := -1) hx hb dX6_needNeighbour_11 (by decide) ?_
  refine lv_icmp_ne (tgt := 26) hx hb dX6_needNeighbour_12 (by decide) (fun _ => ?_) (fun c => absurd c hnb0)
  exact W.vret hx hb hr (fun tE ht hW => ⟨⟨(), rfl, trivial, x_at ht (hP)⟩, hS.F ht⟩) hS.2.2 dX6_needNeighbour_26

set_option maxRecDepth 100000 in
set_option maxHeartbeats 4000000 in
/-- needOpen, where it is not plugged -/
theorem c_X6_needOpen (l : Launch) (D : va_G) (cy : Nat → ClassId) (lo n : Nat) (w0 : Nat → va_E) (o : Nat) (G T P : Mem) (ho1 : lo ≤ o) (ho2 : o + 118 ≤ lo + n) (w : Nat) (hwl : w < 6) (hop : P (103 + 2 * w) 0 = 0) : Met l yX6_needOpen wsX6_needOpen ({ frames := 0, cells := 0, slots := 0, locals := 0 }) (PcW D cy lo n (gw cy (gw cy (hw cy w0 o P) (o + 50) T) (o + 1) G) [.ref o, .int (nI w)]) (QvW D lo n (gw cy (gw cy (hw cy w0 o P) (o + 50) T) (o + 1) G)) 0 0 (fun q : Nat => lo ≤ q) := by
  refine Met.ofW (cc := cX6_needOpen) (maxL := 2) (ret := none) (by decide) rfl ?_
  intro p e s m args below meth c s₁ B hml hv
  obtain ⟨rfl, hP, hK, hS⟩ := x_entry hv
  have hx := B.exec
  have hb := B.bytes
  have hr := B.returns
  have hts := atoms_spec (ws := wsX6_needOpen) B.pre
  have hown : s.vm.findClass RX6 = some m.cls := findClass_of_methodNamed B.named
  have hlocks := B.notSynchronized
  have iX5 : ∀ w ∈ u_ws RX5 TX5 5, w ∈ wsX6_needOpen := by decide +kernel
  have iX6 : ∀ w ∈ u_ws RX6 TX6 11, w ∈ wsX6_needOpen := by decide +kernel
  have hl := lv_entry ([.ref o, .int (nI w)]) (n := 2) (Nat.le_of_ble_eq_true rfl)
  rw [lg_entry_eq]
  generalize (lg_sl ([.ref o, .int (nI w)]) ++ List.replicate (2 - (lg_sl ([.ref o, .int (nI w)])).length) Slot.unset).toArray = ls at hl ⊢
  have hl : lv_has ls 2 [(0, .ref o), (1, .int (nI w))] := hl
  refine lv_aload_n hx hb dX6_needOpen_0 rfl (lv_at hl 0 rfl) ?_
  refine x_get (ref := RX6) (C := RX6) (T := TX6) (N := 11) (ci := 6) (v := .ref (o + 99)) hx hb hts iX6 hown hK.1 hP (by omega) (by omega) (((gw_out (by omega)).trans ((gw_out (by omega)).trans (hw_0)))) rfl 2 (by decide) (hts (.fieldLink RX6 21 "PoreField" "logs" "[LPoreField$WellLog;") (by decide +kernel)) (fun _ h9 => h9) rfl dX6_needOpen_1 ?_
  refine lv_iload_n hx hb dX6_needOpen_4 rfl (lv_at hl 1 rfl) ?_
  refine x_aald (b := (o + (103 + 2 * w))) hx hb hK.1 hP (by omega) (by omega) 3 (((gw_out (by omega)).trans ((gw_out (by omega)).trans (hw_99)))) rfl (cl_of_nI (i := w) rfl (by omega)) rfl (vp_in_of_nI (i := w) rfl (by omega) (by omega)) dX6_needOpen_5 ?_
  refine x_get (ref := RX5) (C := RX5) (T := TX5) (N := 5) (ci := 5) (v := .int (P (103 + 2 * w) 0)) hx hb hts iX5 hown hK.1 hP (by omega) (by omega) (((gw_out (by omega)).trans ((gw_out (by omega)).trans (hw_log (by omega))))) rfl 0 (by decide) (hts (.fieldLink RX6 125 "PoreField$WellLog" "isPlugged" "Z") (by decide +kernel)) (fun _ h9 => h9) rfl dX6_needOpen_6 ?_
  refine lv_if_eq (tgt := 23) hx hb dX6_needOpen_9 (by decide) (fun _ => ?_) (fun c => absurd hop c)
  exact W.vret hx hb hr (fun tE ht hW => ⟨⟨(), rfl, trivial, x_at ht (hP)⟩, hS.F ht⟩) hS.2.2 dX6_needOpen_23

def m_cell (G : Mem) (ce : Nat) (r x y z : Int32) : Mem := u2 (u2 (u2 (u2 G (5 + 2 * ce) 0 r) (6 + 2 * ce) 0 x) (6 + 2 * ce) 1 y) (6 + 2 * ce) 2 z
theorem cell_rm {G : Mem} {ce : Nat} {r x y z : Int32} (h : 10 ≤ r) : ¬ m_cell G ce r x y z (5 + 2 * ce) 0 = 0 := by
  unfold m_cell
  rw [u2_ne (by omega), u2_ne (by omega), u2_ne (by omega), u2_same]
  intro q
  subst q
  exact absurd h (by decide)

set_option maxRecDepth 100000 in
set_option maxHeartbeats 4000000 in
/-- cell -/
theorem c_X6_cell (l : Launch) (D : va_G) (cy : Nat → ClassId) (lo n : Nat) (w0 : Nat → va_E) (o : Nat) (G T P : Mem) (ho1 : lo ≤ o) (ho2 : o + 118 ≤ lo + n) (ce : Nat) (hc : ce < 16) (r x y z : Int32) (hr1 : 10 ≤ r) (hr2 : r ≤ 90) (ho3 : 0 ≤ x) (ho4 : x ≤ 99) (hw1 : 0 ≤ y) (hw2 : y ≤ 99) (hg3 : 0 ≤ z) (hg4 : z ≤ 99) : Met l yX6_cell wsX6_cell ({ frames := 2, cells := 0, slots := 0, locals := 40 }) (PcW D cy lo n (gw cy (gw cy (hw cy w0 o P) (o + 50) T) (o + 1) G) [.ref o, .int (nI ce), .int r, .int x, .int y, .int z]) (QiW D lo n (gw cy (gw cy (hw cy w0 o P) (o + 50) T) (o + 1) (m_cell G ce r x y z)) (m_pressure (m_cell G ce r x y z) ce)) 0 0 (fun q : Nat => lo ≤ q) := by
  refine Met.ofW (cc := cX6_cell) (maxL := 7) (ret := (some .int)) (by decide) rfl ?_
  intro p e s m args below meth c s₁ B hml hv
  obtain ⟨rfl, hP, hK, hS⟩ := x_entry hv
  have hx := B.exec
  have hb := B.bytes
  have hr := B.returns
  have hts := atoms_spec (ws := wsX6_cell) B.pre
  have hown : s.vm.findClass RX6 = some m.cls := findClass_of_methodNamed B.named
  have hlocks := B.notSynchronized
  have iX1 : ∀ w ∈ u_ws RX1 TX1 4, w ∈ wsX6_cell := by decide +kernel
  have iX2 : ∀ w ∈ u_ws RX2 TX2 12, w ∈ wsX6_cell := by decide +kernel
  have iX6 : ∀ w ∈ u_ws RX6 TX6 11, w ∈ wsX6_cell := by decide +kernel
  have hl := lv_entry ([.ref o, .int (nI ce), .int r, .int x, .int y, .int z]) (n := 7) (Nat.le_of_ble_eq_true rfl)
  rw [lg_entry_eq]
  generalize (lg_sl ([.ref o, .int (nI ce), .int r, .int x, .int y, .int z]) ++ List.replicate (7 - (lg_sl ([.ref o, .int (nI ce), .int r, .int x, .int y, .int z])).length) Slot.unset).toArray = ls at hl ⊢
  have hl : lv_has ls 7 [(0, .ref o), (1, .int (nI ce)), (2, .int r), (3, .int x), (4, .int y), (5, .int z)] := hl
  refine lv_iload_n hx hb dX6_cell_0 rfl (lv_at hl 1 rfl) ?_
  refine lv_bipush (v := 16) hx hb dX6_cell_1 (by decide) ?_
  refine x_callv (va_runS (As := [.int (nI ce), .int (16 : Int32)]) (rest := []) ⟨hx, hb, hml, hown, hts⟩ (c_X6_needIndex l D cy lo n (gw cy (gw cy (hw cy w0 o P) (o + 50) T) (o + 1) G) ce 16 (by omega) (by omega) (nI ce) (16 : Int32) rfl rfl) (va_cwS 2 hts gX6_cell_X6_needIndex rfl rfl rfl (by decide +kernel) ⟨Nat.le_of_ble_eq_true rfl, Nat.le_of_ble_eq_true rfl⟩) (preS hP hK) rfl rfl hl.1 rfl (lv_room (Nat.le_of_ble_eq_true rfl)) dX6_cell_3 ⟨Nat.le_of_ble_eq_true rfl, Nat.le_of_ble_eq_true rfl⟩) hS (fun H locs hP hS => ?_)
  refine lv_iload_n hx hb dX6_cell_6 rfl (lv_at hl 2 rfl) ?_
  refine lv_bipush (v := 10) hx hb dX6_cell_7 (by decide) ?_
  refine lv_bipush (v := 90) hx hb dX6_cell_9 (by decide) ?_
  refine x_callv (va_runS (As := [.int r, .int (10 : Int32), .int (90 : Int32)]) (rest := []) ⟨hx, hb, hml, hown, hts⟩ (c_X6_needWithin l D cy lo n (gw cy (gw cy (hw cy w0 o P) (o + 50) T) (o + 1) G) r (10 : Int32) (90 : Int32) hr1 hr2) (va_cwS 3 hts gX6_cell_X6_needWithin rfl rfl rfl (by decide +kernel) ⟨Nat.le_of_ble_eq_true rfl, Nat.le_of_ble_eq_true rfl⟩) (preS hP hK) rfl rfl hl.1 rfl (lv_room (Nat.le_of_ble_eq_true rfl)) dX6_cell_11 ⟨Nat.le_of_ble_eq_true rfl, Nat.le_of_ble_eq_true rfl⟩) hS (fun H locs hP hS => ?_)
  refine lv_iload_n hx hb dX6_cell_14 rfl (lv_at hl 3 rfl) ?_
  refine lv_iconst (v := 0) hx hb dX6_cell_15 (by decide) ?_
  refine lv_bipush (v := 99) hx hb dX6_cell_16 (by decide) ?_
  refine x_callv (va_runS (As := [.int x, .int (0 : Int32), .int (99 : Int32)]) (rest := []) ⟨hx, hb, hml, hown, hts⟩ (c_X6_needWithin l D cy lo n (gw cy (gw cy (hw cy w0 o P) (o + 50) T) (o + 1) G) x (0 : Int32) (99 : Int32) ho3 ho4) (va_cwS 3 hts gX6_cell_X6_needWithin rfl rfl rfl (by decide +kernel) ⟨Nat.le_of_ble_eq_true rfl, Nat.le_of_ble_eq_true rfl⟩) (preS hP hK) rfl rfl hl.1 rfl (lv_room (Nat.le_of_ble_eq_true rfl)) dX6_cell_18 ⟨Nat.le_of_ble_eq_true rfl, Nat.le_of_ble_eq_true rfl⟩) hS (fun H locs hP hS => ?_)
  refine lv_iload hx hb dX6_cell_21 (lv_at hl 4 rfl) ?_
  refine lv_iconst (v := 0) hx hb dX6_cell_23 (by decide) ?_
  refine lv_bipush (v := 99) hx hb dX6_cell_24 (by decide) ?_
  refine x_callv (va_runS (As := [.int y, .int (0 : Int32), .int (99 : Int32)]) (rest := []) ⟨hx, hb, hml, hown, hts⟩ (c_X6_needWithin l D cy lo n (gw cy (gw cy (hw cy w0 o P) (o + 50) T) (o + 1) G) y (0 : Int32) (99 : Int32) hw1 hw2) (va_cwS 3 hts gX6_cell_X6_needWithin rfl rfl rfl (by decide +kernel) ⟨Nat.le_of_ble_eq_true rfl, Nat.le_of_ble_eq_true rfl⟩) (preS hP hK) rfl rfl hl.1 rfl (lv_room (Nat.le_of_ble_eq_true rfl)) dX6_cell_26 ⟨Nat.le_of_ble_eq_true rfl, Nat.le_of_ble_eq_true rfl⟩) hS (fun H locs hP hS => ?_)
  refine lv_iload hx hb dX6_cell_29 (lv_at hl 5 rfl) ?_
  refine lv_iconst (v := 0) hx hb dX6_cell_31 (by decide) ?_
  refine lv_bipush (v := 99) hx hb dX6_cell_32 (by decide) ?_
  refine x_callv (va_runS (As := [.int z, .int (0 : Int32), .int (99 : Int32)]) (rest := []) ⟨hx, hb, hml, hown, hts⟩ (c_X6_needWithin l D cy lo n (gw cy (gw cy (hw cy w0 o P) (o + 50) T) (o + 1) G) z (0 : Int32) (99 : Int32) hg3 hg4) (va_cwS 3 hts gX6_cell_X6_needWithin rfl rfl rfl (by decide +kernel) ⟨Nat.le_of_ble_eq_true rfl, Nat.le_of_ble_eq_true rfl⟩) (preS hP hK) rfl rfl hl.1 rfl (lv_room (Nat.le_of_ble_eq_true rfl)) dX6_cell_34 ⟨Nat.le_of_ble_eq_true rfl, Nat.le_of_ble_eq_true rfl⟩) hS (fun H locs hP hS => ?_)
  refine lv_aload_n hx hb dX6_cell_37 rfl (lv_at hl 0 rfl) ?_
  refine x_get (ref := RX6) (C := RX6) (T := TX6) (N := 11) (ci := 6) (v := .ref (o + 1)) hx hb hts iX6 hown hK.1 hP (by omega) (by omega) (((gw_out (by omega)).trans ((gw_out (by omega)).trans (hw_0)))) rfl 0 (by decide) (hts (.fieldLink RX6 10 "PoreField" "ground" "LPoreField$Ground;") (by decide +kernel)) (fun _ h9 => h9) rfl dX6_cell_38 ?_
  refine x_get (ref := RX2) (C := RX2) (T := TX2) (N := 12) (ci := 2) (v := .ref ((o + 1) + 1)) hx hb hts iX2 hown hK.1 hP (by omega) (by omega) (gw_0) rfl 0 (by decide) (hts (.fieldLink RX6 59 "PoreField$Ground" "cells" "[LPoreField$Cell;") (by decide +kernel)) (fun _ h9 => h9) rfl dX6_cell_41 ?_
  refine lv_iload_n hx hb dX6_cell_44 rfl (lv_at hl 1 rfl) ?_
  refine x_aald (b := ((o + 1) + (5 + 2 * ce))) hx hb hK.1 hP (by omega) (by omega) 1 (gw_1) rfl (cl_of_nI (i := ce) rfl (by omega)) rfl (vp_in_of_nI (i := ce) rfl (by omega) (by omega)) dX6_cell_45 ?_
  refine lv_astore (lv' := [(6, .ref ((o + 1) + (5 + 2 * ce))), (0, .ref o), (1, .int (nI ce)), (2, .int r), (3, .int x), (4, .int y), (5, .int z)]) hx hb dX6_cell_46 hl (by decide) rfl (fun ls hl => ?_)
  refine lv_aload hx hb dX6_cell_48 (lv_at hl 0 rfl) ?_
  refine lv_iload_n hx hb dX6_cell_50 rfl (lv_at hl 3 rfl) ?_
  refine x_put (ty := .int) (ref := RX1) (C := RX1) (T := TX1) (N := 4) (ci := 1) (v := .int r) hx hb hts iX1 tyX1 tyX1_ok nmX1 hown hK.1 hP hS (by omega) (by omega) (gw_cell (by omega)) rfl 0 (by decide) (hts (.fieldLink RX6 63 "PoreField$Cell" "room" "I") (by decide +kernel)) (fun _ h9 => h9) rfl (by decide +kernel) rfl rfl (Nat.le_of_ble_eq_true rfl) dX6_cell_51 (fun H locs hP hS => ?_)
  have hP := gp (k := 5 + 2 * ce) (j := 0) (v := r) hP (by omega) (by rw [gEr_cell (by omega)]; rfl)
  refine lv_aload hx hb dX6_cell_54 (lv_at hl 0 rfl) ?_
  refine x_get (ref := RX1) (C := RX1) (T := TX1) (N := 4) (ci := 1) (v := .ref ((o + 1) + (6 + 2 * ce))) hx hb hts iX1 hown hK.1 hP (by omega) (by omega) (gw_cell (by omega)) rfl 1 (by decide) (hts (.fieldLink RX6 68 "PoreField$Cell" "fluids" "[I") (by decide +kernel)) (fun _ h9 => h9) rfl dX6_cell_56 ?_
  refine lv_iconst (v := 0) hx hb dX6_cell_59 (by decide) ?_
  refine lv_iload_n hx hb dX6_cell_60 rfl (lv_at hl 4 rfl) ?_
  refine x_iast (v := x) hx hb hK.1 hP hS (by omega) (by omega) 0 (gw_row (gRow_fl (by omega))) rfl (cl_of_nI (i := 0) rfl (by omega)) (vp_in_of_nI (i := 0) rfl (by omega) (by omega)) dX6_cell_61 (fun H locs hP hS => ?_)
  have hP := gpr (k := 6 + 2 * ce) (j := 0) (v := x) hP (gRow_fl (by omega))
  refine lv_aload hx hb dX6_cell_62 (lv_at hl 0 rfl) ?_
  refine x_get (ref := RX1) (C := RX1) (T := TX1) (N := 4) (ci := 1) (v := .ref ((o + 1) + (6 + 2 * ce))) hx hb hts iX1 hown hK.1 hP (by omega) (by omega) (gw_cell (by omega)) rfl 1 (by decide) (hts (.fieldLink RX6 68 "PoreField$Cell" "fluids" "[I") (by decide +kernel)) (fun _ h9 => h9) rfl dX6_cell_64 ?_
  refine lv_iconst (v := 1) hx hb dX6_cell_67 (by decide) ?_
  refine lv_iload hx hb dX6_cell_68 (lv_at hl 5 rfl) ?_
  refine x_iast (v := y) hx hb hK.1 hP hS (by omega) (by omega) 0 (gw_row (gRow_fl (by omega))) rfl (cl_of_nI (i := 1) rfl (by omega)) (vp_in_of_nI (i := 1) rfl (by omega) (by omega)) dX6_cell_70 (fun H locs hP hS => ?_)
  have hP := gpr (k := 6 + 2 * ce) (j := 1) (v := y) hP (gRow_fl (by omega))
  refine lv_aload hx hb dX6_cell_71 (lv_at hl 0 rfl) ?_
  refine x_get (ref := RX1) (C := RX1) (T := TX1) (N := 4) (ci := 1) (v := .ref ((o + 1) + (6 + 2 * ce))) hx hb hts iX1 hown hK.1 hP (by omega) (by omega) (gw_cell (by omega)) rfl 1 (by decide) (hts (.fieldLink RX6 68 "PoreField$Cell" "fluids" "[I") (by decide +kernel)) (fun _ h9 => h9) rfl dX6_cell_73 ?_
  refine lv_iconst (v := 2) hx hb dX6_cell_76 (by decide) ?_
  refine lv_iload hx hb dX6_cell_77 (lv_at hl 6 rfl) ?_
  refine x_iast (v := z) hx hb hK.1 hP hS (by omega) (by omega) 0 (gw_row (gRow_fl (by omega))) rfl (cl_of_nI (i := 2) rfl (by omega)) (vp_in_of_nI (i := 2) rfl (by omega) (by omega)) dX6_cell_79 (fun H locs hP hS => ?_)
  have hP := gpr (k := 6 + 2 * ce) (j := 2) (v := z) hP (gRow_fl (by omega))
  refine lv_aload hx hb dX6_cell_80 (lv_at hl 0 rfl) ?_
  refine x_calli (va_runV (As := []) (rest := []) ⟨hx, hb, hml, hown, hts⟩ (c_X1_pressure l D cy lo n (gw cy (hw cy w0 o P) (o + 50) T) (o + 1) (u2 (u2 (u2 (u2 G (5 + 2 * ce) 0 r) (6 + 2 * ce) 0 x) (6 + 2 * ce) 1 y) (6 + 2 * ce) 2 z) (by omega) (by omega) ce (by omega) (cell_rm hr1)) (cwV 0 hts gX6_cell_X1_pressure rfl rfl rfl (by decide +kernel) ⟨Nat.le_of_ble_eq_true rfl, Nat.le_of_ble_eq_true rfl⟩) (preV hP hK (x_recv (ci := 1) (q := (RX1, TX1, 4)) hK.1 hP (by omega) (by omega) rfl (gw_cell (by omega)))) rfl rfl hl.1 rfl (lv_room (Nat.le_of_ble_eq_true rfl)) dX6_cell_82 ⟨Nat.le_of_ble_eq_true rfl, Nat.le_of_ble_eq_true rfl⟩) hS (fun H locs hP hS => ?_)
  exact W.iret (v := (m_pressure (u2 (u2 (u2 (u2 G (5 + 2 * ce) 0 r) (6 + 2 * ce) 0 x) (6 + 2 * ce) 1 y) (6 + 2 * ce) 2 z) ce)) hx hb hr (fun tE ht hW => ⟨⟨(m_pressure (u2 (u2 (u2 (u2 G (5 + 2 * ce) 0 r) (6 + 2 * ce) 0 x) (6 + 2 * ce) 1 y) (6 + 2 * ce) 2 z) ce), (), rfl, rfl, x_at ht (hP)⟩, hS.F ht⟩) hS.2.2 dX6_cell_85

theorem isShut01 {G : Mem} {ce : Nat} (h : (G (5 + 2 * ce) 2 = 0 ∨ G (5 + 2 * ce) 2 = 1) ∧ (G (5 + 2 * ce) 3 = 0 ∨ G (5 + 2 * ce) 3 = 1)) (b : Int32) : m_isShut G ce b = 0 ∨ m_isShut G ce b = 1 := by
  unfold m_isShut
  split
  · exact h.2
  · exact h.1

set_option maxRecDepth 100000 in
set_option maxHeartbeats 4000000 in
/-- fault -/
theorem c_X6_fault (l : Launch) (D : va_G) (cy : Nat → ClassId) (lo n : Nat) (w0 : Nat → va_E) (o : Nat) (G T P : Mem) (ho1 : lo ≤ o) (ho2 : o + 118 ≤ lo + n) (nd : Nat) (hG : GI nd G) (ce : Nat) (hc : ce < 16) (b x : Int32) (hx01 : x = 0 ∨ x = 1) (hnb0 : ¬ m_nb ce b = -1) : Met l yX6_fault wsX6_fault ({ frames := 2, cells := 0, slots := 0, locals := 42 }) (PcW D cy lo n (gw cy (gw cy (hw cy w0 o P) (o + 50) T) (o + 1) G) [.ref o, .int (nI ce), .int b, .int x]) (QiW D lo n (gw cy (gw cy (hw cy w0 o P) (o + 50) T) (o + 1) (m_shut G ce b x)) (m_isShut G ce b)) 0 0 (fun q : Nat => lo ≤ q) := by
  refine Met.ofW (cc := cX6_fault) (maxL := 6) (ret := (some .boolean)) (by decide) rfl ?_
  intro p e s m args below meth c s₁ B hml hv
  obtain ⟨rfl, hP, hK, hS⟩ := x_entry hv
  have hx := B.exec
  have hb := B.bytes
  have hr := B.returns
  have hts := atoms_spec (ws := wsX6_fault) B.pre
  have hown : s.vm.findClass RX6 = some m.cls := findClass_of_methodNamed B.named
  have hlocks := B.notSynchronized
  have iX2 : ∀ w ∈ u_ws RX2 TX2 12, w ∈ wsX6_fault := by decide +kernel
  have iX6 : ∀ w ∈ u_ws RX6 TX6 11, w ∈ wsX6_fault := by decide +kernel
  have hl := lv_entry ([.ref o, .int (nI ce), .int b, .int x]) (n := 6) (Nat.le_of_ble_eq_true rfl)
  rw [lg_entry_eq]
  generalize (lg_sl ([.ref o, .int (nI ce), .int b, .int x]) ++ List.replicate (6 - (lg_sl ([.ref o, .int (nI ce), .int b, .int x])).length) Slot.unset).toArray = ls at hl ⊢
  have hl : lv_has ls 6 [(0, .ref o), (1, .int (nI ce)), (2, .int b), (3, .int x)] := hl
  refine lv_iload_n hx hb dX6_fault_0 rfl (lv_at hl 1 rfl) ?_
  refine lv_iload_n hx hb dX6_fault_1 rfl (lv_at hl 2 rfl) ?_
  refine x_callv (va_runS (As := [.int (nI ce), .int b]) (rest := []) ⟨hx, hb, hml, hown, hts⟩ (c_X6_needNeighbour l D cy lo n (gw cy (gw cy (hw cy w0 o P) (o + 50) T) (o + 1) G) ce (by omega) b hnb0) (va_cwS 2 hts gX6_fault_X6_needNeighbour rfl rfl rfl (by decide +kernel) ⟨Nat.le_of_ble_eq_true rfl, Nat.le_of_ble_eq_true rfl⟩) (preS hP hK) rfl rfl hl.1 rfl (lv_room (Nat.le_of_ble_eq_true rfl)) dX6_fault_2 ⟨Nat.le_of_ble_eq_true rfl, Nat.le_of_ble_eq_true rfl⟩) hS (fun H locs hP hS => ?_)
  refine lv_aload_n hx hb dX6_fault_5 rfl (lv_at hl 0 rfl) ?_
  refine x_get (ref := RX6) (C := RX6) (T := TX6) (N := 11) (ci := 6) (v := .ref (o + 1)) hx hb hts iX6 hown hK.1 hP (by omega) (by omega) (((gw_out (by omega)).trans ((gw_out (by omega)).trans (hw_0)))) rfl 0 (by decide) (hts (.fieldLink RX6 10 "PoreField" "ground" "LPoreField$Ground;") (by decide +kernel)) (fun _ h9 => h9) rfl dX6_fault_6 ?_
  refine x_get (ref := RX2) (C := RX2) (T := TX2) (N := 12) (ci := 2) (v := .ref ((o + 1) + 1)) hx hb hts iX2 hown hK.1 hP (by omega) (by omega) (gw_0) rfl 0 (by decide) (hts (.fieldLink RX6 59 "PoreField$Ground" "cells" "[LPoreField$Cell;") (by decide +kernel)) (fun _ h9 => h9) rfl dX6_fault_9 ?_
  refine lv_iload_n hx hb dX6_fault_12 rfl (lv_at hl 1 rfl) ?_
  refine x_aald (b := ((o + 1) + (5 + 2 * ce))) hx hb hK.1 hP (by omega) (by omega) 1 (gw_1) rfl (cl_of_nI (i := ce) rfl (by omega)) rfl (vp_in_of_nI (i := ce) rfl (by omega) (by omega)) dX6_fault_13 ?_
  refine lv_astore (lv' := [(4, .ref ((o + 1) + (5 + 2 * ce))), (0, .ref o), (1, .int (nI ce)), (2, .int b), (3, .int x)]) hx hb dX6_fault_14 hl (by decide) rfl (fun ls hl => ?_)
  refine lv_aload hx hb dX6_fault_16 (lv_at hl 0 rfl) ?_
  refine lv_iload_n hx hb dX6_fault_18 rfl (lv_at hl 3 rfl) ?_
  refine x_calli (va_runV (As := [.int b]) (rest := []) ⟨hx, hb, hml, hown, hts⟩ (c_X1_isShut l D cy lo n (gw cy (hw cy w0 o P) (o + 50) T) (o + 1) G (by omega) (by omega) ce (by omega) b (hG.sh (by omega))) (cwV 1 hts gX6_fault_X1_isShut rfl rfl rfl (by decide +kernel) ⟨Nat.le_of_ble_eq_true rfl, Nat.le_of_ble_eq_true rfl⟩) (preV hP hK (x_recv (ci := 1) (q := (RX1, TX1, 4)) hK.1 hP (by omega) (by omega) rfl (gw_cell (by omega)))) rfl rfl hl.1 rfl (lv_room (Nat.le_of_ble_eq_true rfl)) dX6_fault_19 ⟨Nat.le_of_ble_eq_true rfl, Nat.le_of_ble_eq_true rfl⟩) hS (fun H locs hP hS => ?_)
  refine lv_istore (lv' := [(5, .int (m_isShut G ce b)), (4, .ref ((o + 1) + (5 + 2 * ce))), (0, .ref o), (1, .int (nI ce)), (2, .int b), (3, .int x)]) hx hb dX6_fault_22 hl (by decide) rfl (fun ls hl => ?_)
  refine lv_aload hx hb dX6_fault_24 (lv_at hl 1 rfl) ?_
  refine lv_iload_n hx hb dX6_fault_26 rfl (lv_at hl 4 rfl) ?_
  refine lv_iload_n hx hb dX6_fault_27 rfl (lv_at hl 5 rfl) ?_
  refine x_callv (va_runV (As := [.int b, .int x]) (rest := []) ⟨hx, hb, hml, hown, hts⟩ (c_X1_shut l D cy lo n (gw cy (hw cy w0 o P) (o + 50) T) (o + 1) G (by omega) (by omega) ce (by omega) b x hx01) (cwV 2 hts gX6_fault_X1_shut rfl rfl rfl (by decide +kernel) ⟨Nat.le_of_ble_eq_true rfl, Nat.le_of_ble_eq_true rfl⟩) (preV hP hK (x_recv (ci := 1) (q := (RX1, TX1, 4)) hK.1 hP (by omega) (by omega) rfl (gw_cell (by omega)))) rfl rfl hl.1 rfl (lv_room (Nat.le_of_ble_eq_true rfl)) dX6_fault_28 ⟨Nat.le_of_ble_eq_true rfl, Nat.le_of_ble_eq_true rfl⟩) hS (fun H locs hP hS => ?_)
  refine lv_iload hx hb dX6_fault_31 (lv_at hl 0 rfl) ?_
  exact W.zret (v := (m_isShut G ce b)) hx hb hr (nar_z (isShut01 (hG.sh hc) b)) (fun tE ht hW => ⟨⟨(m_isShut G ce b), (), rfl, rfl, x_at ht (hP)⟩, hS.F ht⟩) hS.2.2 dX6_fault_33

set_option maxRecDepth 100000 in
set_option maxHeartbeats 4000000 in
/-- well -/
theorem c_X6_well (l : Launch) (D : va_G) (cy : Nat → ClassId) (lo n : Nat) (w0 : Nat → va_E) (o : Nat) (G T P : Mem) (ho1 : lo ≤ o) (ho2 : o + 118 ≤ lo + n) (nd : Nat) (hG : GI nd G) (ce : Nat) (hc : ce < 16) (kd : Int32) (hk1 : 0 ≤ kd) (hk2 : kd ≤ 2) (hn6 : nd < 6) : Met l yX6_well wsX6_well ({ frames := 1, cells := 0, slots := 0, locals := 22 }) (PcW D cy lo n (gw cy (gw cy (hw cy w0 o P) (o + 50) T) (o + 1) G) [.ref o, .int kd, .int (nI ce)]) (QiW D lo n (gw cy (gw cy (hw cy w0 o P) (o + 50) T) (o + 1) (u2 (u2 (u2 G (37 + 2 * nd) 0 kd) (37 + 2 * nd) 1 (nI ce)) 0 2 (G 0 2 + 1))) (G 0 2)) 0 0 (fun q : Nat => lo ≤ q) := by
  refine Met.ofW (cc := cX6_well) (maxL := 4) (ret := (some .int)) (by decide) rfl ?_
  intro p e s m args below meth c s₁ B hml hv
  obtain ⟨rfl, hP, hK, hS⟩ := x_entry hv
  have hx := B.exec
  have hb := B.bytes
  have hr := B.returns
  have hts := atoms_spec (ws := wsX6_well) B.pre
  have hown : s.vm.findClass RX6 = some m.cls := findClass_of_methodNamed B.named
  have hlocks := B.notSynchronized
  have iX2 : ∀ w ∈ u_ws RX2 TX2 12, w ∈ wsX6_well := by decide +kernel
  have iX4 : ∀ w ∈ u_ws RX4 TX4 5, w ∈ wsX6_well := by decide +kernel
  have iX6 : ∀ w ∈ u_ws RX6 TX6 11, w ∈ wsX6_well := by decide +kernel
  have hl := lv_entry ([.ref o, .int kd, .int (nI ce)]) (n := 4) (Nat.le_of_ble_eq_true rfl)
  rw [lg_entry_eq]
  generalize (lg_sl ([.ref o, .int kd, .int (nI ce)]) ++ List.replicate (4 - (lg_sl ([.ref o, .int kd, .int (nI ce)])).length) Slot.unset).toArray = ls at hl ⊢
  have hl : lv_has ls 4 [(0, .ref o), (1, .int kd), (2, .int (nI ce))] := hl
  refine lv_iload_n hx hb dX6_well_0 rfl (lv_at hl 2 rfl) ?_
  refine lv_bipush (v := 16) hx hb dX6_well_1 (by decide) ?_
  refine x_callv (va_runS (As := [.int (nI ce), .int (16 : Int32)]) (rest := []) ⟨hx, hb, hml, hown, hts⟩ (c_X6_needIndex l D cy lo n (gw cy (gw cy (hw cy w0 o P) (o + 50) T) (o + 1) G) ce 16 (by omega) (by omega) (nI ce) (16 : Int32) rfl rfl) (va_cwS 2 hts gX6_well_X6_needIndex rfl rfl rfl (by decide +kernel) ⟨Nat.le_of_ble_eq_true rfl, Nat.le_of_ble_eq_true rfl⟩) (preS hP hK) rfl rfl hl.1 rfl (lv_room (Nat.le_of_ble_eq_true rfl)) dX6_well_3 ⟨Nat.le_of_ble_eq_true rfl, Nat.le_of_ble_eq_true rfl⟩) hS (fun H locs hP hS => ?_)
  refine lv_iload_n hx hb dX6_well_6 rfl (lv_at hl 1 rfl) ?_
  refine lv_iconst (v := 0) hx hb dX6_well_7 (by decide) ?_
  refine lv_iconst (v := 2) hx hb dX6_well_8 (by decide) ?_
  refine x_callv (va_runS (As := [.int kd, .int (0 : Int32), .int (2 : Int32)]) (rest := []) ⟨hx, hb, hml, hown, hts⟩ (c_X6_needWithin l D cy lo n (gw cy (gw cy (hw cy w0 o P) (o + 50) T) (o + 1) G) kd (0 : Int32) (2 : Int32) hk1 hk2) (va_cwS 3 hts gX6_well_X6_needWithin rfl rfl rfl (by decide +kernel) ⟨Nat.le_of_ble_eq_true rfl, Nat.le_of_ble_eq_true rfl⟩) (preS hP hK) rfl rfl hl.1 rfl (lv_room (Nat.le_of_ble_eq_true rfl)) dX6_well_9 ⟨Nat.le_of_ble_eq_true rfl, Nat.le_of_ble_eq_true rfl⟩) hS (fun H locs hP hS => ?_)
  refine lv_aload_n hx hb dX6_well_12 rfl (lv_at hl 0 rfl) ?_
  refine x_get (ref := RX6) (C := RX6) (T := TX6) (N := 11) (ci := 6) (v := .ref (o + 1)) hx hb hts iX6 hown hK.1 hP (by omega) (by omega) (((gw_out (by omega)).trans ((gw_out (by omega)).trans (hw_0)))) rfl 0 (by decide) (hts (.fieldLink RX6 10 "PoreField" "ground" "LPoreField$Ground;") (by decide +kernel)) (fun _ h9 => h9) rfl dX6_well_13 ?_
  refine x_get (ref := RX2) (C := RX2) (T := TX2) (N := 12) (ci := 2) (v := .int (G 0 2)) hx hb hts iX2 hown hK.1 hP (by omega) (by omega) (gw_0) rfl 2 (by decide) (hts (.fieldLink RX6 87 "PoreField$Ground" "drilled" "I") (by decide +kernel)) (fun _ h9 => h9) rfl dX6_well_16 ?_
  refine lv_bipush (v := 6) hx hb dX6_well_19 (by decide) ?_
  refine lv_icmp_lt (tgt := 34) hx hb dX6_well_21 (by decide) (fun _ => ?_) (fun c => absurd ((br_lt hG.dr (show (6 : Int32) = nI 6 from rfl) (by omega) (by omega)).mpr hn6) c)
  refine lv_aload_n hx hb dX6_well_34 rfl (lv_at hl 0 rfl) ?_
  refine x_get (ref := RX6) (C := RX6) (T := TX6) (N := 11) (ci := 6) (v := .ref (o + 1)) hx hb hts iX6 hown hK.1 hP (by omega) (by omega) (((gw_out (by omega)).trans ((gw_out (by omega)).trans (hw_0)))) rfl 0 (by decide) (hts (.fieldLink RX6 10 "PoreField" "ground" "LPoreField$Ground;") (by decide +kernel)) (fun _ h9 => h9) rfl dX6_well_35 ?_
  refine x_get (ref := RX2) (C := RX2) (T := TX2) (N := 12) (ci := 2) (v := .int (G 0 2)) hx hb hts iX2 hown hK.1 hP (by omega) (by omega) (gw_0) rfl 2 (by decide) (hts (.fieldLink RX6 87 "PoreField$Ground" "drilled" "I") (by decide +kernel)) (fun _ h9 => h9) rfl dX6_well_38 ?_
  refine lv_istore_n (lv' := [(3, .int (G 0 2)), (0, .ref o), (1, .int kd), (2, .int (nI ce))]) hx hb dX6_well_41 rfl hl (by decide) rfl (fun ls hl => ?_)
  refine lv_aload_n hx hb dX6_well_42 rfl (lv_at hl 1 rfl) ?_
  refine x_get (ref := RX6) (C := RX6) (T := TX6) (N := 11) (ci := 6) (v := .ref (o + 1)) hx hb hts iX6 hown hK.1 hP (by omega) (by omega) (((gw_out (by omega)).trans ((gw_out (by omega)).trans (hw_0)))) rfl 0 (by decide) (hts (.fieldLink RX6 10 "PoreField" "ground" "LPoreField$Ground;") (by decide +kernel)) (fun _ h9 => h9) rfl dX6_well_43 ?_
  refine x_get (ref := RX2) (C := RX2) (T := TX2) (N := 12) (ci := 2) (v := .ref ((o + 1) + 2)) hx hb hts iX2 hown hK.1 hP (by omega) (by omega) (gw_0) rfl 1 (by decide) (hts (.fieldLink RX6 97 "PoreField$Ground" "wells" "[LPoreField$Well;") (by decide +kernel)) (fun _ h9 => h9) rfl dX6_well_46 ?_
  refine lv_iload_n hx hb dX6_well_49 rfl (lv_at hl 0 rfl) ?_
  refine x_aald (b := ((o + 1) + (37 + 2 * nd))) hx hb hK.1 hP (by omega) (by omega) 2 (gw_2) rfl (cl_of_nI (i := nd) hG.dr (by omega)) rfl (vp_in_of_nI (i := nd) hG.dr (by omega) (by omega)) dX6_well_50 ?_
  refine lv_iload_n hx hb dX6_well_51 rfl (lv_at hl 2 rfl) ?_
  refine x_put (ty := .int) (ref := RX4) (C := RX4) (T := TX4) (N := 5) (ci := 4) (v := .int kd) hx hb hts iX4 tyX4 tyX4_ok nmX4 hown hK.1 hP hS (by omega) (by omega) (gw_well (by omega)) rfl 0 (by decide) (hts (.fieldLink RX6 101 "PoreField$Well" "kind" "I") (by decide +kernel)) (fun _ h9 => h9) rfl (by decide +kernel) rfl rfl (Nat.le_of_ble_eq_true rfl) dX6_well_52 (fun H locs hP hS => ?_)
  have hP := gp (k := 37 + 2 * nd) (j := 0) (v := kd) hP (by omega) (by rw [gEr_well (by omega)]; rfl)
  refine lv_aload_n hx hb dX6_well_55 rfl (lv_at hl 1 rfl) ?_
  refine x_get (ref := RX6) (C := RX6) (T := TX6) (N := 11) (ci := 6) (v := .ref (o + 1)) hx hb hts iX6 hown hK.1 hP (by omega) (by omega) (((gw_out (by omega)).trans ((gw_out (by omega)).trans (hw_0)))) rfl 0 (by decide) (hts (.fieldLink RX6 10 "PoreField" "ground" "LPoreField$Ground;") (by decide +kernel)) (fun _ h9 => h9) rfl dX6_well_56 ?_
  refine x_get (ref := RX2) (C := RX2) (T := TX2) (N := 12) (ci := 2) (v := .ref ((o + 1) + 2)) hx hb hts iX2 hown hK.1 hP (by omega) (by omega) (gw_0) rfl 1 (by decide) (hts (.fieldLink RX6 97 "PoreField$Ground" "wells" "[LPoreField$Well;") (by decide +kernel)) (fun _ h9 => h9) rfl dX6_well_59 ?_
  refine lv_iload_n hx hb dX6_well_62 rfl (lv_at hl 0 rfl) ?_
  refine x_aald (b := ((o + 1) + (37 + 2 * nd))) hx hb hK.1 hP (by omega) (by omega) 2 (gw_2) rfl (cl_of_nI (i := nd) hG.dr (by omega)) rfl (vp_in_of_nI (i := nd) hG.dr (by omega) (by omega)) dX6_well_63 ?_
  refine lv_iload_n hx hb dX6_well_64 rfl (lv_at hl 3 rfl) ?_
  refine x_put (ty := .int) (ref := RX4) (C := RX4) (T := TX4) (N := 5) (ci := 4) (v := .int (nI ce)) hx hb hts iX4 tyX4 tyX4_ok nmX4 hown hK.1 hP hS (by omega) (by omega) (gw_well (by omega)) rfl 1 (by decide) (hts (.fieldLink RX6 106 "PoreField$Well" "cell" "I") (by decide +kernel)) (fun _ h9 => h9) rfl (by decide +kernel) rfl rfl (Nat.le_of_ble_eq_true rfl) dX6_well_65 (fun H locs hP hS => ?_)
  have hP := gp (k := 37 + 2 * nd) (j := 1) (v := (nI ce)) hP (by omega) (by rw [gEr_well (by omega)]; rfl)
  refine lv_aload_n hx hb dX6_well_68 rfl (lv_at hl 1 rfl) ?_
  refine x_get (ref := RX6) (C := RX6) (T := TX6) (N := 11) (ci := 6) (v := .ref (o + 1)) hx hb hts iX6 hown hK.1 hP (by omega) (by omega) (((gw_out (by omega)).trans ((gw_out (by omega)).trans (hw_0)))) rfl 0 (by decide) (hts (.fieldLink RX6 10 "PoreField" "ground" "LPoreField$Ground;") (by decide +kernel)) (fun _ h9 => h9) rfl dX6_well_69 ?_
  refine lv_iload_n hx hb dX6_well_72 rfl (lv_at hl 0 rfl) ?_
  refine lv_iconst (v := 1) hx hb dX6_well_73 (by decide) ?_
  refine lv_iadd hx hb dX6_well_74 ?_
  refine x_put (ty := .int) (ref := RX2) (C := RX2) (T := TX2) (N := 12) (ci := 2) (v := .int ((G 0 2) + (1 : Int32))) hx hb hts iX2 tyX2 tyX2_ok nmX2 hown hK.1 hP hS (by omega) (by omega) (gw_0) rfl 2 (by decide) (hts (.fieldLink RX6 87 "PoreField$Ground" "drilled" "I") (by decide +kernel)) (fun _ h9 => h9) rfl (by decide +kernel) rfl rfl (Nat.le_of_ble_eq_true rfl) dX6_well_75 (fun H locs hP hS => ?_)
  have hP := gp0 (j := 2) (v := ((G 0 2) + (1 : Int32))) hP (rfl)
  refine lv_iload_n hx hb dX6_well_78 rfl (lv_at hl 0 rfl) ?_
  exact W.iret (v := (G 0 2)) hx hb hr (fun tE ht hW => ⟨⟨(G 0 2), (), rfl, rfl, x_at ht (hP)⟩, hS.F ht⟩) hS.2.2 dX6_well_79

set_option maxRecDepth 100000 in
set_option maxHeartbeats 4000000 in
/-- choke -/
theorem c_X6_choke (l : Launch) (D : va_G) (cy : Nat → ClassId) (lo n : Nat) (w0 : Nat → va_E) (o : Nat) (G T P : Mem) (ho1 : lo ≤ o) (ho2 : o + 118 ≤ lo + n) (nd : Nat) (hG : GI nd G) (w : Nat) (hwl : w < nd) (x : Int32) (hx1 : 0 ≤ x) (hx2 : x ≤ 9) (hop : P (103 + 2 * w) 0 = 0) : Met l yX6_choke wsX6_choke ({ frames := 1, cells := 0, slots := 0, locals := 22 }) (PcW D cy lo n (gw cy (gw cy (hw cy w0 o P) (o + 50) T) (o + 1) G) [.ref o, .int (nI w), .int x]) (QiW D lo n (gw cy (gw cy (hw cy w0 o P) (o + 50) T) (o + 1) (u2 G (37 + 2 * w) 2 x)) (G (37 + 2 * w) 2)) 0 0 (fun q : Nat => lo ≤ q) := by
  refine Met.ofW (cc := cX6_choke) (maxL := 4) (ret := (some .int)) (by decide) rfl ?_
  intro p e s m args below meth c s₁ B hml hv
  obtain ⟨rfl, hP, hK, hS⟩ := x_entry hv
  have hx := B.exec
  have hb := B.bytes
  have hr := B.returns
  have hts := atoms_spec (ws := wsX6_choke) B.pre
  have hown : s.vm.findClass RX6 = some m.cls := findClass_of_methodNamed B.named
  have hlocks := B.notSynchronized
  have iX2 : ∀ w ∈ u_ws RX2 TX2 12, w ∈ wsX6_choke := by decide +kernel
  have iX4 : ∀ w ∈ u_ws RX4 TX4 5, w ∈ wsX6_choke := by decide +kernel
  have iX6 : ∀ w ∈ u_ws RX6 TX6 11, w ∈ wsX6_choke := by decide +kernel
  have hl := lv_entry ([.ref o, .int (nI w), .int x]) (n := 4) (Nat.le_of_ble_eq_true rfl)
  rw [lg_entry_eq]
  generalize (lg_sl ([.ref o, .int (nI w), .int x]) ++ List.replicate (4 - (lg_sl ([.ref o, .int (nI w), .int x])).length) Slot.unset).toArray = ls at hl ⊢
  have hl : lv_has ls 4 [(0, .ref o), (1, .int (nI w)), (2, .int x)] := hl
  have hnd := hG.1
  refine lv_iload_n hx hb dX6_choke_0 rfl (lv_at hl 1 rfl) ?_
  refine lv_aload_n hx hb dX6_choke_1 rfl (lv_at hl 0 rfl) ?_
  refine x_get (ref := RX6) (C := RX6) (T := TX6) (N := 11) (ci := 6) (v := .ref (o + 1)) hx hb hts iX6 hown hK.1 hP (by omega) (by omega) (((gw_out (by omega)).trans ((gw_out (by omega)).trans (hw_0)))) rfl 0 (by decide) (hts (.fieldLink RX6 10 "PoreField" "ground" "LPoreField$Ground;") (by decide +kernel)) (fun _ h9 => h9) rfl dX6_choke_2 ?_
  refine x_get (ref := RX2) (C := RX2) (T := TX2) (N := 12) (ci := 2) (v := .int (G 0 2)) hx hb hts iX2 hown hK.1 hP (by omega) (by omega) (gw_0) rfl 2 (by decide) (hts (.fieldLink RX6 87 "PoreField$Ground" "drilled" "I") (by decide +kernel)) (fun _ h9 => h9) rfl dX6_choke_5 ?_
  refine x_callv (va_runS (As := [.int (nI w), .int (G 0 2)]) (rest := []) ⟨hx, hb, hml, hown, hts⟩ (c_X6_needIndex l D cy lo n (gw cy (gw cy (hw cy w0 o P) (o + 50) T) (o + 1) G) w nd (by omega) (by omega) (nI w) (G 0 2) rfl hG.dr) (va_cwS 2 hts gX6_choke_X6_needIndex rfl rfl rfl (by decide +kernel) ⟨Nat.le_of_ble_eq_true rfl, Nat.le_of_ble_eq_true rfl⟩) (preS hP hK) rfl rfl hl.1 rfl (lv_room (Nat.le_of_ble_eq_true rfl)) dX6_choke_8 ⟨Nat.le_of_ble_eq_true rfl, Nat.le_of_ble_eq_true rfl⟩) hS (fun H locs hP hS => ?_)
  refine lv_iload_n hx hb dX6_choke_11 rfl (lv_at hl 2 rfl) ?_
  refine lv_iconst (v := 0) hx hb dX6_choke_12 (by decide) ?_
  refine lv_bipush (v := 9) hx hb dX6_choke_13 (by decide) ?_
  refine x_callv (va_runS (As := [.int x, .int (0 : Int32), .int (9 : Int32)]) (rest := []) ⟨hx, hb, hml, hown, hts⟩ (c_X6_needWithin l D cy lo n (gw cy (gw cy (hw cy w0 o P) (o + 50) T) (o + 1) G) x (0 : Int32) (9 : Int32) hx1 hx2) (va_cwS 3 hts gX6_choke_X6_needWithin rfl rfl rfl (by decide +kernel) ⟨Nat.le_of_ble_eq_true rfl, Nat.le_of_ble_eq_true rfl⟩) (preS hP hK) rfl rfl hl.1 rfl (lv_room (Nat.le_of_ble_eq_true rfl)) dX6_choke_15 ⟨Nat.le_of_ble_eq_true rfl, Nat.le_of_ble_eq_true rfl⟩) hS (fun H locs hP hS => ?_)
  refine lv_aload_n hx hb dX6_choke_18 rfl (lv_at hl 0 rfl) ?_
  refine lv_iload_n hx hb dX6_choke_19 rfl (lv_at hl 1 rfl) ?_
  refine x_callv (va_runV (As := [.int (nI w)]) (rest := []) ⟨hx, hb, hml, hown, hts⟩ (c_X6_needOpen l D cy lo n w0 o G T P (by omega) (by omega) w (by omega) hop) (cwV 1 hts gX6_choke_X6_needOpen rfl rfl rfl (by decide +kernel) ⟨Nat.le_of_ble_eq_true rfl, Nat.le_of_ble_eq_true rfl⟩) (preV hP hK (x_recv (ci := 6) (q := (RX6, TX6, 11)) hK.1 hP (by omega) (by omega) rfl (((gw_out (by omega)).trans ((gw_out (by omega)).trans (hw_0)))))) rfl rfl hl.1 rfl (lv_room (Nat.le_of_ble_eq_true rfl)) dX6_choke_20 ⟨Nat.le_of_ble_eq_true rfl, Nat.le_of_ble_eq_true rfl⟩) hS (fun H locs hP hS => ?_)
  refine lv_aload_n hx hb dX6_choke_23 rfl (lv_at hl 0 rfl) ?_
  refine x_get (ref := RX6) (C := RX6) (T := TX6) (N := 11) (ci := 6) (v := .ref (o + 1)) hx hb hts iX6 hown hK.1 hP (by omega) (by omega) (((gw_out (by omega)).trans ((gw_out (by omega)).trans (hw_0)))) rfl 0 (by decide) (hts (.fieldLink RX6 10 "PoreField" "ground" "LPoreField$Ground;") (by decide +kernel)) (fun _ h9 => h9) rfl dX6_choke_24 ?_
  refine x_get (ref := RX2) (C := RX2) (T := TX2) (N := 12) (ci := 2) (v := .ref ((o + 1) + 2)) hx hb hts iX2 hown hK.1 hP (by omega) (by omega) (gw_0) rfl 1 (by decide) (hts (.fieldLink RX6 97 "PoreField$Ground" "wells" "[LPoreField$Well;") (by decide +kernel)) (fun _ h9 => h9) rfl dX6_choke_27 ?_
  refine lv_iload_n hx hb dX6_choke_30 rfl (lv_at hl 1 rfl) ?_
  refine x_aald (b := ((o + 1) + (37 + 2 * w))) hx hb hK.1 hP (by omega) (by omega) 2 (gw_2) rfl (cl_of_nI (i := w) rfl (by omega)) rfl (vp_in_of_nI (i := w) rfl (by omega) (by omega)) dX6_choke_31 ?_
  refine x_get (ref := RX4) (C := RX4) (T := TX4) (N := 5) (ci := 4) (v := .int (G (37 + 2 * w) 2)) hx hb hts iX4 hown hK.1 hP (by omega) (by omega) (gw_well (by omega)) rfl 2 (by decide) (hts (.fieldLink RX6 113 "PoreField$Well" "choke" "I") (by decide +kernel)) (fun _ h9 => h9) rfl dX6_choke_32 ?_
  refine lv_istore_n (lv' := [(3, .int (G (37 + 2 * w) 2)), (0, .ref o), (1, .int (nI w)), (2, .int x)]) hx hb dX6_choke_35 rfl hl (by decide) rfl (fun ls hl => ?_)
  refine lv_aload_n hx hb dX6_choke_36 rfl (lv_at hl 1 rfl) ?_
  refine x_get (ref := RX6) (C := RX6) (T := TX6) (N := 11) (ci := 6) (v := .ref (o + 1)) hx hb hts iX6 hown hK.1 hP (by omega) (by omega) (((gw_out (by omega)).trans ((gw_out (by omega)).trans (hw_0)))) rfl 0 (by decide) (hts (.fieldLink RX6 10 "PoreField" "ground" "LPoreField$Ground;") (by decide +kernel)) (fun _ h9 => h9) rfl dX6_choke_37 ?_
  refine x_get (ref := RX2) (C := RX2) (T := TX2) (N := 12) (ci := 2) (v := .ref ((o + 1) + 2)) hx hb hts iX2 hown hK.1 hP (by omega) (by omega) (gw_0) rfl 1 (by decide) (hts (.fieldLink RX6 97 "PoreField$Ground" "wells" "[LPoreField$Well;") (by decide +kernel)) (fun _ h9 => h9) rfl dX6_choke_40 ?_
  refine lv_iload_n hx hb dX6_choke_43 rfl (lv_at hl 2 rfl) ?_
  refine x_aald (b := ((o + 1) + (37 + 2 * w))) hx hb hK.1 hP (by omega) (by omega) 2 (gw_2) rfl (cl_of_nI (i := w) rfl (by omega)) rfl (vp_in_of_nI (i := w) rfl (by omega) (by omega)) dX6_choke_44 ?_
  refine lv_iload_n hx hb dX6_choke_45 rfl (lv_at hl 3 rfl) ?_
  refine x_put (ty := .int) (ref := RX4) (C := RX4) (T := TX4) (N := 5) (ci := 4) (v := .int x) hx hb hts iX4 tyX4 tyX4_ok nmX4 hown hK.1 hP hS (by omega) (by omega) (gw_well (by omega)) rfl 2 (by decide) (hts (.fieldLink RX6 113 "PoreField$Well" "choke" "I") (by decide +kernel)) (fun _ h9 => h9) rfl (by decide +kernel) rfl rfl (Nat.le_of_ble_eq_true rfl) dX6_choke_46 (fun H locs hP hS => ?_)
  have hP := gp (k := 37 + 2 * w) (j := 2) (v := x) hP (by omega) (by rw [gEr_well (by omega)]; rfl)
  have hG : GI nd (u2 G (37 + 2 * w) 2 x) := hG.u (by omega)
  refine lv_iload_n hx hb dX6_choke_49 rfl (lv_at hl 0 rfl) ?_
  exact W.iret (v := (G (37 + 2 * w) 2)) hx hb hr (fun tE ht hW => ⟨⟨(G (37 + 2 * w) 2), (), rfl, rfl, x_at ht (hP)⟩, hS.F ht⟩) hS.2.2 dX6_choke_50

set_option maxRecDepth 100000 in
set_option maxHeartbeats 4000000 in
/-- rank -/
theorem c_X6_rank (l : Launch) (D : va_G) (cy : Nat → ClassId) (lo n : Nat) (w0 : Nat → va_E) (o : Nat) (G T P : Mem) (ho1 : lo ≤ o) (ho2 : o + 118 ≤ lo + n) (nd : Nat) (hG : GI nd G) (w : Nat) (hwl : w < nd) (x : Int32) (hx1 : 1 ≤ x) (hx2 : x ≤ 9) : Met l yX6_rank wsX6_rank ({ frames := 1, cells := 0, slots := 0, locals := 22 }) (PcW D cy lo n (gw cy (gw cy (hw cy w0 o P) (o + 50) T) (o + 1) G) [.ref o, .int (nI w), .int x]) (QiW D lo n (gw cy (gw cy (hw cy w0 o P) (o + 50) T) (o + 1) (u2 G (37 + 2 * w) 3 x)) (G (37 + 2 * w) 3)) 0 0 (fun q : Nat => lo ≤ q) := by
  refine Met.ofW (cc := cX6_rank) (maxL := 4) (ret := (some .int)) (by decide) rfl ?_
  intro p e s m args below meth c s₁ B hml hv
  obtain ⟨rfl, hP, hK, hS⟩ := x_entry hv
  have hx := B.exec
  have hb := B.bytes
  have hr := B.returns
  have hts := atoms_spec (ws := wsX6_rank) B.pre
  have hown : s.vm.findClass RX6 = some m.cls := findClass_of_methodNamed B.named
  have hlocks := B.notSynchronized
  have iX2 : ∀ w ∈ u_ws RX2 TX2 12, w ∈ wsX6_rank := by decide +kernel
  have iX4 : ∀ w ∈ u_ws RX4 TX4 5, w ∈ wsX6_rank := by decide +kernel
  have iX6 : ∀ w ∈ u_ws RX6 TX6 11, w ∈ wsX6_rank := by decide +kernel
  have hl := lv_entry ([.ref o, .int (nI w), .int x]) (n := 4) (Nat.le_of_ble_eq_true rfl)
  rw [lg_entry_eq]
  generalize (lg_sl ([.ref o, .int (nI w), .int x]) ++ List.replicate (4 - (lg_sl ([.ref o, .int (nI w), .int x])).length) Slot.unset).toArray = ls at hl ⊢
  have hl : lv_has ls 4 [(0, .ref o), (1, .int (nI w)), (2, .int x)] := hl
  have hnd := hG.1
  refine lv_iload_n hx hb dX6_rank_0 rfl (lv_at hl 1 rfl) ?_
  refine lv_aload_n hx hb dX6_rank_1 rfl (lv_at hl 0 rfl) ?_
  refine x_get (ref := RX6) (C := RX6) (T := TX6) (N := 11) (ci := 6) (v := .ref (o + 1)) hx hb hts iX6 hown hK.1 hP (by omega) (by omega) (((gw_out (by omega)).trans ((gw_out (by omega)).trans (hw_0)))) rfl 0 (by decide) (hts (.fieldLink RX6 10 "PoreField" "ground" "LPoreField$Ground;") (by decide +kernel)) (fun _ h9 => h9) rfl dX6_rank_2 ?_
  refine x_get (ref := RX2) (C := RX2) (T := TX2) (N := 12) (ci := 2) (v := .int (G 0 2)) hx hb hts iX2 hown hK.1 hP (by omega) (by omega) (gw_0) rfl 2 (by decide) (hts (.fieldLink RX6 87 "PoreField$Ground" "drilled" "I") (by decide +kernel)) (fun _ h9 => h9) rfl dX6_rank_5 ?_
  refine x_callv (va_runS (As := [.int (nI w), .int (G 0 2)]) (rest := []) ⟨hx, hb, hml, hown, hts⟩ (c_X6_needIndex l D cy lo n (gw cy (gw cy (hw cy w0 o P) (o + 50) T) (o + 1) G) w nd (by omega) (by omega) (nI w) (G 0 2) rfl hG.dr) (va_cwS 2 hts gX6_rank_X6_needIndex rfl rfl rfl (by decide +kernel) ⟨Nat.le_of_ble_eq_true rfl, Nat.le_of_ble_eq_true rfl⟩) (preS hP hK) rfl rfl hl.1 rfl (lv_room (Nat.le_of_ble_eq_true rfl)) dX6_rank_8 ⟨Nat.le_of_ble_eq_true rfl, Nat.le_of_ble_eq_true rfl⟩) hS (fun H locs hP hS => ?_)
  refine lv_iload_n hx hb dX6_rank_11 rfl (lv_at hl 2 rfl) ?_
  refine lv_iconst (v := 1) hx hb dX6_rank_12 (by decide) ?_
  refine lv_bipush (v := 9) hx hb dX6_rank_13 (by decide) ?_
  refine x_callv (va_runS (As := [.int x, .int (1 : Int32), .int (9 : Int32)]) (rest := []) ⟨hx, hb, hml, hown, hts⟩ (c_X6_needWithin l D cy lo n (gw cy (gw cy (hw cy w0 o P) (o + 50) T) (o + 1) G) x (1 : Int32) (9 : Int32) hx1 hx2) (va_cwS 3 hts gX6_rank_X6_needWithin rfl rfl rfl (by decide +kernel) ⟨Nat.le_of_ble_eq_true rfl, Nat.le_of_ble_eq_true rfl⟩) (preS hP hK) rfl rfl hl.1 rfl (lv_room (Nat.le_of_ble_eq_true rfl)) dX6_rank_15 ⟨Nat.le_of_ble_eq_true rfl, Nat.le_of_ble_eq_true rfl⟩) hS (fun H locs hP hS => ?_)
  refine lv_aload_n hx hb dX6_rank_18 rfl (lv_at hl 0 rfl) ?_
  refine x_get (ref := RX6) (C := RX6) (T := TX6) (N := 11) (ci := 6) (v := .ref (o + 1)) hx hb hts iX6 hown hK.1 hP (by omega) (by omega) (((gw_out (by omega)).trans ((gw_out (by omega)).trans (hw_0)))) rfl 0 (by decide) (hts (.fieldLink RX6 10 "PoreField" "ground" "LPoreField$Ground;") (by decide +kernel)) (fun _ h9 => h9) rfl dX6_rank_19 ?_
  refine x_get (ref := RX2) (C := RX2) (T := TX2) (N := 12) (ci := 2) (v := .ref ((o + 1) + 2)) hx hb hts iX2 hown hK.1 hP (by omega) (by omega) (gw_0) rfl 1 (by decide) (hts (.fieldLink RX6 97 "PoreField$Ground" "wells" "[LPoreField$Well;") (by decide +kernel)) (fun _ h9 => h9) rfl dX6_rank_22 ?_
  refine lv_iload_n hx hb dX6_rank_25 rfl (lv_at hl 1 rfl) ?_
  refine x_aald (b := ((o + 1) + (37 + 2 * w))) hx hb hK.1 hP (by omega) (by omega) 2 (gw_2) rfl (cl_of_nI (i := w) rfl (by omega)) rfl (vp_in_of_nI (i := w) rfl (by omega) (by omega)) dX6_rank_26 ?_
  refine x_get (ref := RX4) (C := RX4) (T := TX4) (N := 5) (ci := 4) (v := .int (G (37 + 2 * w) 3)) hx hb hts iX4 hown hK.1 hP (by omega) (by omega) (gw_well (by omega)) rfl 3 (by decide) (hts (.fieldLink RX6 116 "PoreField$Well" "rank" "I") (by decide +kernel)) (fun _ h9 => h9) rfl dX6_rank_27 ?_
  refine lv_istore_n (lv' := [(3, .int (G (37 + 2 * w) 3)), (0, .ref o), (1, .int (nI w)), (2, .int x)]) hx hb dX6_rank_30 rfl hl (by decide) rfl (fun ls hl => ?_)
  refine lv_aload_n hx hb dX6_rank_31 rfl (lv_at hl 1 rfl) ?_
  refine x_get (ref := RX6) (C := RX6) (T := TX6) (N := 11) (ci := 6) (v := .ref (o + 1)) hx hb hts iX6 hown hK.1 hP (by omega) (by omega) (((gw_out (by omega)).trans ((gw_out (by omega)).trans (hw_0)))) rfl 0 (by decide) (hts (.fieldLink RX6 10 "PoreField" "ground" "LPoreField$Ground;") (by decide +kernel)) (fun _ h9 => h9) rfl dX6_rank_32 ?_
  refine x_get (ref := RX2) (C := RX2) (T := TX2) (N := 12) (ci := 2) (v := .ref ((o + 1) + 2)) hx hb hts iX2 hown hK.1 hP (by omega) (by omega) (gw_0) rfl 1 (by decide) (hts (.fieldLink RX6 97 "PoreField$Ground" "wells" "[LPoreField$Well;") (by decide +kernel)) (fun _ h9 => h9) rfl dX6_rank_35 ?_
  refine lv_iload_n hx hb dX6_rank_38 rfl (lv_at hl 2 rfl) ?_
  refine x_aald (b := ((o + 1) + (37 + 2 * w))) hx hb hK.1 hP (by omega) (by omega) 2 (gw_2) rfl (cl_of_nI (i := w) rfl (by omega)) rfl (vp_in_of_nI (i := w) rfl (by omega) (by omega)) dX6_rank_39 ?_
  refine lv_iload_n hx hb dX6_rank_40 rfl (lv_at hl 3 rfl) ?_
  refine x_put (ty := .int) (ref := RX4) (C := RX4) (T := TX4) (N := 5) (ci := 4) (v := .int x) hx hb hts iX4 tyX4 tyX4_ok nmX4 hown hK.1 hP hS (by omega) (by omega) (gw_well (by omega)) rfl 3 (by decide) (hts (.fieldLink RX6 116 "PoreField$Well" "rank" "I") (by decide +kernel)) (fun _ h9 => h9) rfl (by decide +kernel) rfl rfl (Nat.le_of_ble_eq_true rfl) dX6_rank_41 (fun H locs hP hS => ?_)
  have hP := gp (k := 37 + 2 * w) (j := 3) (v := x) hP (by omega) (by rw [gEr_well (by omega)]; rfl)
  have hG : GI nd (u2 G (37 + 2 * w) 3 x) := hG.u (by omega)
  refine lv_iload_n hx hb dX6_rank_44 rfl (lv_at hl 0 rfl) ?_
  exact W.iret (v := (G (37 + 2 * w) 3)) hx hb hr (fun tE ht hW => ⟨⟨(G (37 + 2 * w) 3), (), rfl, rfl, x_at ht (hP)⟩, hS.F ht⟩) hS.2.2 dX6_rank_45

set_option maxRecDepth 100000 in
set_option maxHeartbeats 4000000 in
/-- test -/
theorem c_X6_test (l : Launch) (D : va_G) (cy : Nat → ClassId) (lo n : Nat) (w0 : Nat → va_E) (o : Nat) (G T P : Mem) (ho1 : lo ≤ o) (ho2 : o + 118 ≤ lo + n) (nd : Nat) (hG : GI nd G) (w : Nat) (hwl : w < nd) (hop : P (103 + 2 * w) 0 = 0) (hk0 : G (37 + 2 * w) 0 = 0) (ht01 : P (103 + 2 * w) 1 = 0 ∨ P (103 + 2 * w) 1 = 1) : Met l yX6_test wsX6_test ({ frames := 1, cells := 0, slots := 0, locals := 21 }) (PcW D cy lo n (gw cy (gw cy (hw cy w0 o P) (o + 50) T) (o + 1) G) [.ref o, .int (nI w)]) (QiW D lo n (gw cy (gw cy (hw cy w0 o (u2 P (103 + 2 * w) 1 1)) (o + 50) T) (o + 1) G) (P (103 + 2 * w) 1)) 0 0 (fun q : Nat => lo ≤ q) := by
  refine Met.ofW (cc := cX6_test) (maxL := 3) (ret := (some .boolean)) (by decide) rfl ?_
  intro p e s m args below meth c s₁ B hml hv
  obtain ⟨rfl, hP, hK, hS⟩ := x_entry hv
  have hx := B.exec
  have hb := B.bytes
  have hr := B.returns
  have hts := atoms_spec (ws := wsX6_test) B.pre
  have hown : s.vm.findClass RX6 = some m.cls := findClass_of_methodNamed B.named
  have hlocks := B.notSynchronized
  have iX2 : ∀ w ∈ u_ws RX2 TX2 12, w ∈ wsX6_test := by decide +kernel
  have iX4 : ∀ w ∈ u_ws RX4 TX4 5, w ∈ wsX6_test := by decide +kernel
  have iX5 : ∀ w ∈ u_ws RX5 TX5 5, w ∈ wsX6_test := by decide +kernel
  have iX6 : ∀ w ∈ u_ws RX6 TX6 11, w ∈ wsX6_test := by decide +kernel
  have hl := lv_entry ([.ref o, .int (nI w)]) (n := 3) (Nat.le_of_ble_eq_true rfl)
  rw [lg_entry_eq]
  generalize (lg_sl ([.ref o, .int (nI w)]) ++ List.replicate (3 - (lg_sl ([.ref o, .int (nI w)])).length) Slot.unset).toArray = ls at hl ⊢
  have hl : lv_has ls 3 [(0, .ref o), (1, .int (nI w))] := hl
  have hnd := hG.1
  refine lv_iload_n hx hb dX6_test_0 rfl (lv_at hl 1 rfl) ?_
  refine lv_aload_n hx hb dX6_test_1 rfl (lv_at hl 0 rfl) ?_
  refine x_get (ref := RX6) (C := RX6) (T := TX6) (N := 11) (ci := 6) (v := .ref (o + 1)) hx hb hts iX6 hown hK.1 hP (by omega) (by omega) (((gw_out (by omega)).trans ((gw_out (by omega)).trans (hw_0)))) rfl 0 (by decide) (hts (.fieldLink RX6 10 "PoreField" "ground" "LPoreField$Ground;") (by decide +kernel)) (fun _ h9 => h9) rfl dX6_test_2 ?_
  refine x_get (ref := RX2) (C := RX2) (T := TX2) (N := 12) (ci := 2) (v := .int (G 0 2)) hx hb hts iX2 hown hK.1 hP (by omega) (by omega) (gw_0) rfl 2 (by decide) (hts (.fieldLink RX6 87 "PoreField$Ground" "drilled" "I") (by decide +kernel)) (fun _ h9 => h9) rfl dX6_test_5 ?_
  refine x_callv (va_runS (As := [.int (nI w), .int (G 0 2)]) (rest := []) ⟨hx, hb, hml, hown, hts⟩ (c_X6_needIndex l D cy lo n (gw cy (gw cy (hw cy w0 o P) (o + 50) T) (o + 1) G) w nd (by omega) (by omega) (nI w) (G 0 2) rfl hG.dr) (va_cwS 2 hts gX6_test_X6_needIndex rfl rfl rfl (by decide +kernel) ⟨Nat.le_of_ble_eq_true rfl, Nat.le_of_ble_eq_true rfl⟩) (preS hP hK) rfl rfl hl.1 rfl (lv_room (Nat.le_of_ble_eq_true rfl)) dX6_test_8 ⟨Nat.le_of_ble_eq_true rfl, Nat.le_of_ble_eq_true rfl⟩) hS (fun H locs hP hS => ?_)
  refine lv_aload_n hx hb dX6_test_11 rfl (lv_at hl 0 rfl) ?_
  refine lv_iload_n hx hb dX6_test_12 rfl (lv_at hl 1 rfl) ?_
  refine x_callv (va_runV (As := [.int (nI w)]) (rest := []) ⟨hx, hb, hml, hown, hts⟩ (c_X6_needOpen l D cy lo n w0 o G T P (by omega) (by omega) w (by omega) hop) (cwV 1 hts gX6_test_X6_needOpen rfl rfl rfl (by decide +kernel) ⟨Nat.le_of_ble_eq_true rfl, Nat.le_of_ble_eq_true rfl⟩) (preV hP hK (x_recv (ci := 6) (q := (RX6, TX6, 11)) hK.1 hP (by omega) (by omega) rfl (((gw_out (by omega)).trans ((gw_out (by omega)).trans (hw_0)))))) rfl rfl hl.1 rfl (lv_room (Nat.le_of_ble_eq_true rfl)) dX6_test_13 ⟨Nat.le_of_ble_eq_true rfl, Nat.le_of_ble_eq_true rfl⟩) hS (fun H locs hP hS => ?_)
  refine lv_aload_n hx hb dX6_test_16 rfl (lv_at hl 0 rfl) ?_
  refine x_get (ref := RX6) (C := RX6) (T := TX6) (N := 11) (ci := 6) (v := .ref (o + 1)) hx hb hts iX6 hown hK.1 hP (by omega) (by omega) (((gw_out (by omega)).trans ((gw_out (by omega)).trans (hw_0)))) rfl 0 (by decide) (hts (.fieldLink RX6 10 "PoreField" "ground" "LPoreField$Ground;") (by decide +kernel)) (fun _ h9 => h9) rfl dX6_test_17 ?_
  refine x_get (ref := RX2) (C := RX2) (T := TX2) (N := 12) (ci := 2) (v := .ref ((o + 1) + 2)) hx hb hts iX2 hown hK.1 hP (by omega) (by omega) (gw_0) rfl 1 (by decide) (hts (.fieldLink RX6 97 "PoreField$Ground" "wells" "[LPoreField$Well;") (by decide +kernel)) (fun _ h9 => h9) rfl dX6_test_20 ?_
  refine lv_iload_n hx hb dX6_test_23 rfl (lv_at hl 1 rfl) ?_
  refine x_aald (b := ((o + 1) + (37 + 2 * w))) hx hb hK.1 hP (by omega) (by omega) 2 (gw_2) rfl (cl_of_nI (i := w) rfl (by omega)) rfl (vp_in_of_nI (i := w) rfl (by omega) (by omega)) dX6_test_24 ?_
  refine x_get (ref := RX4) (C := RX4) (T := TX4) (N := 5) (ci := 4) (v := .int (G (37 + 2 * w) 0)) hx hb hts iX4 hown hK.1 hP (by omega) (by omega) (gw_well (by omega)) rfl 0 (by decide) (hts (.fieldLink RX6 101 "PoreField$Well" "kind" "I") (by decide +kernel)) (fun _ h9 => h9) rfl dX6_test_25 ?_
  refine lv_if_eq (tgt := 41) hx hb dX6_test_28 (by decide) (fun _ => ?_) (fun c => absurd hk0 c)
  refine lv_aload_n hx hb dX6_test_41 rfl (lv_at hl 0 rfl) ?_
  refine x_get (ref := RX6) (C := RX6) (T := TX6) (N := 11) (ci := 6) (v := .ref (o + 99)) hx hb hts iX6 hown hK.1 hP (by omega) (by omega) (((gw_out (by omega)).trans ((gw_out (by omega)).trans (hw_0)))) rfl 2 (by decide) (hts (.fieldLink RX6 21 "PoreField" "logs" "[LPoreField$WellLog;") (by decide +kernel)) (fun _ h9 => h9) rfl dX6_test_42 ?_
  refine lv_iload_n hx hb dX6_test_45 rfl (lv_at hl 1 rfl) ?_
  refine x_aald (b := (o + (103 + 2 * w))) hx hb hK.1 hP (by omega) (by omega) 3 (((gw_out (by omega)).trans ((gw_out (by omega)).trans (hw_99)))) rfl (cl_of_nI (i := w) rfl (by omega)) rfl (vp_in_of_nI (i := w) rfl (by omega) (by omega)) dX6_test_46 ?_
  refine x_get (ref := RX5) (C := RX5) (T := TX5) (N := 5) (ci := 5) (v := .int (P (103 + 2 * w) 1)) hx hb hts iX5 hown hK.1 hP (by omega) (by omega) (((gw_out (by omega)).trans ((gw_out (by omega)).trans (hw_log (by omega))))) rfl 1 (by decide) (hts (.fieldLink RX6 121 "PoreField$WellLog" "isToTest" "Z") (by decide +kernel)) (fun _ h9 => h9) rfl dX6_test_47 ?_
  refine lv_istore_n (lv' := [(2, .int (P (103 + 2 * w) 1)), (0, .ref o), (1, .int (nI w))]) hx hb dX6_test_50 rfl hl (by decide) rfl (fun ls hl => ?_)
  refine lv_aload_n hx hb dX6_test_51 rfl (lv_at hl 1 rfl) ?_
  refine x_get (ref := RX6) (C := RX6) (T := TX6) (N := 11) (ci := 6) (v := .ref (o + 99)) hx hb hts iX6 hown hK.1 hP (by omega) (by omega) (((gw_out (by omega)).trans ((gw_out (by omega)).trans (hw_0)))) rfl 2 (by decide) (hts (.fieldLink RX6 21 "PoreField" "logs" "[LPoreField$WellLog;") (by decide +kernel)) (fun _ h9 => h9) rfl dX6_test_52 ?_
  refine lv_iload_n hx hb dX6_test_55 rfl (lv_at hl 2 rfl) ?_
  refine x_aald (b := (o + (103 + 2 * w))) hx hb hK.1 hP (by omega) (by omega) 3 (((gw_out (by omega)).trans ((gw_out (by omega)).trans (hw_99)))) rfl (cl_of_nI (i := w) rfl (by omega)) rfl (vp_in_of_nI (i := w) rfl (by omega) (by omega)) dX6_test_56 ?_
  refine lv_iconst (v := 1) hx hb dX6_test_57 (by decide) ?_
  refine x_put (ty := .boolean) (ref := RX5) (C := RX5) (T := TX5) (N := 5) (ci := 5) (v := .int (1 : Int32)) hx hb hts iX5 tyX5 tyX5_ok nmX5 hown hK.1 hP hS (by omega) (by omega) (((gw_out (by omega)).trans ((gw_out (by omega)).trans (hw_log (by omega))))) rfl 1 (by decide) (hts (.fieldLink RX6 121 "PoreField$WellLog" "isToTest" "Z") (by decide +kernel)) (fun _ h9 => h9) rfl (by decide +kernel) (nar_z (Or.inr rfl)) (fit_z (Or.inr rfl)) (Nat.le_of_ble_eq_true rfl) dX6_test_58 (fun H locs hP hS => ?_)
  have hP := hp2 (k := 103 + 2 * w) (j := 1) (v := (1 : Int32)) hP (by omega) (by omega) (by omega) (by rw [hEr_log (by omega)]; rfl)
  refine lv_iload_n hx hb dX6_test_61 rfl (lv_at hl 0 rfl) ?_
  exact W.zret (v := (P (103 + 2 * w) 1)) hx hb hr (nar_z ht01) (fun tE ht hW => ⟨⟨(P (103 + 2 * w) 1), (), rfl, rfl, x_at ht (hP)⟩, hS.F ht⟩) hS.2.2 dX6_test_62

set_option maxRecDepth 100000 in
set_option maxHeartbeats 4000000 in
/-- plug -/
theorem c_X6_plug (l : Launch) (D : va_G) (cy : Nat → ClassId) (lo n : Nat) (w0 : Nat → va_E) (o : Nat) (G T P : Mem) (ho1 : lo ≤ o) (ho2 : o + 118 ≤ lo + n) (nd : Nat) (hG : GI nd G) (w : Nat) (hwl : w < nd) (hop : P (103 + 2 * w) 0 = 0) : Met l yX6_plug wsX6_plug ({ frames := 1, cells := 0, slots := 0, locals := 21 }) (PcW D cy lo n (gw cy (gw cy (hw cy w0 o P) (o + 50) T) (o + 1) G) [.ref o, .int (nI w)]) (QiW D lo n (gw cy (gw cy (hw cy w0 o (u2 P (103 + 2 * w) 0 1)) (o + 50) T) (o + 1) (u2 G (37 + 2 * w) 2 0)) (G (37 + 2 * w) 2)) 0 0 (fun q : Nat => lo ≤ q) := by
  refine Met.ofW (cc := cX6_plug) (maxL := 3) (ret := (some .int)) (by decide) rfl ?_
  intro p e s m args below meth c s₁ B hml hv
  obtain ⟨rfl, hP, hK, hS⟩ := x_entry hv
  have hx := B.exec
  have hb := B.bytes
  have hr := B.returns
  have hts := atoms_spec (ws := wsX6_plug) B.pre
  have hown : s.vm.findClass RX6 = some m.cls := findClass_of_methodNamed B.named
  have hlocks := B.notSynchronized
  have iX2 : ∀ w ∈ u_ws RX2 TX2 12, w ∈ wsX6_plug := by decide +kernel
  have iX4 : ∀ w ∈ u_ws RX4 TX4 5, w ∈ wsX6_plug := by decide +kernel
  have iX5 : ∀ w ∈ u_ws RX5 TX5 5, w ∈ wsX6_plug := by decide +kernel
  have iX6 : ∀ w ∈ u_ws RX6 TX6 11, w ∈ wsX6_plug := by decide +kernel
  have hl := lv_entry ([.ref o, .int (nI w)]) (n := 3) (Nat.le_of_ble_eq_true rfl)
  rw [lg_entry_eq]
  generalize (lg_sl ([.ref o, .int (nI w)]) ++ List.replicate (3 - (lg_sl ([.ref o, .int (nI w)])).length) Slot.unset).toArray = ls at hl ⊢
  have hl : lv_has ls 3 [(0, .ref o), (1, .int (nI w))] := hl
  have hnd := hG.1
  refine lv_iload_n hx hb dX6_plug_0 rfl (lv_at hl 1 rfl) ?_
  refine lv_aload_n hx hb dX6_plug_1 rfl (lv_at hl 0 rfl) ?_
  refine x_get (ref := RX6) (C := RX6) (T := TX6) (N := 11) (ci := 6) (v := .ref (o + 1)) hx hb hts iX6 hown hK.1 hP (by omega) (by omega) (((gw_out (by omega)).trans ((gw_out (by omega)).trans (hw_0)))) rfl 0 (by decide) (hts (.fieldLink RX6 10 "PoreField" "ground" "LPoreField$Ground;") (by decide +kernel)) (fun _ h9 => h9) rfl dX6_plug_2 ?_
  refine x_get (ref := RX2) (C := RX2) (T := TX2) (N := 12) (ci := 2) (v := .int (G 0 2)) hx hb hts iX2 hown hK.1 hP (by omega) (by omega) (gw_0) rfl 2 (by decide) (hts (.fieldLink RX6 87 "PoreField$Ground" "drilled" "I") (by decide +kernel)) (fun _ h9 => h9) rfl dX6_plug_5 ?_
  refine x_callv (va_runS (As := [.int (nI w), .int (G 0 2)]) (rest := []) ⟨hx, hb, hml, hown, hts⟩ (c_X6_needIndex l D cy lo n (gw cy (gw cy (hw cy w0 o P) (o + 50) T) (o + 1) G) w nd (by omega) (by omega) (nI w) (G 0 2) rfl hG.dr) (va_cwS 2 hts gX6_plug_X6_needIndex rfl rfl rfl (by decide +kernel) ⟨Nat.le_of_ble_eq_true rfl, Nat.le_of_ble_eq_true rfl⟩) (preS hP hK) rfl rfl hl.1 rfl (lv_room (Nat.le_of_ble_eq_true rfl)) dX6_plug_8 ⟨Nat.le_of_ble_eq_true rfl, Nat.le_of_ble_eq_true rfl⟩) hS (fun H locs hP hS => ?_)
  refine lv_aload_n hx hb dX6_plug_11 rfl (lv_at hl 0 rfl) ?_
  refine lv_iload_n hx hb dX6_plug_12 rfl (lv_at hl 1 rfl) ?_
  refine x_callv (va_runV (As := [.int (nI w)]) (rest := []) ⟨hx, hb, hml, hown, hts⟩ (c_X6_needOpen l D cy lo n w0 o G T P (by omega) (by omega) w (by omega) hop) (cwV 1 hts gX6_plug_X6_needOpen rfl rfl rfl (by decide +kernel) ⟨Nat.le_of_ble_eq_true rfl, Nat.le_of_ble_eq_true rfl⟩) (preV hP hK (x_recv (ci := 6) (q := (RX6, TX6, 11)) hK.1 hP (by omega) (by omega) rfl (((gw_out (by omega)).trans ((gw_out (by omega)).trans (hw_0)))))) rfl rfl hl.1 rfl (lv_room (Nat.le_of_ble_eq_true rfl)) dX6_plug_13 ⟨Nat.le_of_ble_eq_true rfl, Nat.le_of_ble_eq_true rfl⟩) hS (fun H locs hP hS => ?_)
  refine lv_aload_n hx hb dX6_plug_16 rfl (lv_at hl 0 rfl) ?_
  refine x_get (ref := RX6) (C := RX6) (T := TX6) (N := 11) (ci := 6) (v := .ref (o + 1)) hx hb hts iX6 hown hK.1 hP (by omega) (by omega) (((gw_out (by omega)).trans ((gw_out (by omega)).trans (hw_0)))) rfl 0 (by decide) (hts (.fieldLink RX6 10 "PoreField" "ground" "LPoreField$Ground;") (by decide +kernel)) (fun _ h9 => h9) rfl dX6_plug_17 ?_
  refine x_get (ref := RX2) (C := RX2) (T := TX2) (N := 12) (ci := 2) (v := .ref ((o + 1) + 2)) hx hb hts iX2 hown hK.1 hP (by omega) (by omega) (gw_0) rfl 1 (by decide) (hts (.fieldLink RX6 97 "PoreField$Ground" "wells" "[LPoreField$Well;") (by decide +kernel)) (fun _ h9 => h9) rfl dX6_plug_20 ?_
  refine lv_iload_n hx hb dX6_plug_23 rfl (lv_at hl 1 rfl) ?_
  refine x_aald (b := ((o + 1) + (37 + 2 * w))) hx hb hK.1 hP (by omega) (by omega) 2 (gw_2) rfl (cl_of_nI (i := w) rfl (by omega)) rfl (vp_in_of_nI (i := w) rfl (by omega) (by omega)) dX6_plug_24 ?_
  refine x_get (ref := RX4) (C := RX4) (T := TX4) (N := 5) (ci := 4) (v := .int (G (37 + 2 * w) 2)) hx hb hts iX4 hown hK.1 hP (by omega) (by omega) (gw_well (by omega)) rfl 2 (by decide) (hts (.fieldLink RX6 113 "PoreField$Well" "choke" "I") (by decide +kernel)) (fun _ h9 => h9) rfl dX6_plug_25 ?_
  refine lv_istore_n (lv' := [(2, .int (G (37 + 2 * w) 2)), (0, .ref o), (1, .int (nI w))]) hx hb dX6_plug_28 rfl hl (by decide) rfl (fun ls hl => ?_)
  refine lv_aload_n hx hb dX6_plug_29 rfl (lv_at hl 1 rfl) ?_
  refine x_get (ref := RX6) (C := RX6) (T := TX6) (N := 11) (ci := 6) (v := .ref (o + 1)) hx hb hts iX6 hown hK.1 hP (by omega) (by omega) (((gw_out (by omega)).trans ((gw_out (by omega)).trans (hw_0)))) rfl 0 (by decide) (hts (.fieldLink RX6 10 "PoreField" "ground" "LPoreField$Ground;") (by decide +kernel)) (fun _ h9 => h9) rfl dX6_plug_30 ?_
  refine x_get (ref := RX2) (C := RX2) (T := TX2) (N := 12) (ci := 2) (v := .ref ((o + 1) + 2)) hx hb hts iX2 hown hK.1 hP (by omega) (by omega) (gw_0) rfl 1 (by decide) (hts (.fieldLink RX6 97 "PoreField$Ground" "wells" "[LPoreField$Well;") (by decide +kernel)) (fun _ h9 => h9) rfl dX6_plug_33 ?_
  refine lv_iload_n hx hb dX6_plug_36 rfl (lv_at hl 2 rfl) ?_
  refine x_aald (b := ((o + 1) + (37 + 2 * w))) hx hb hK.1 hP (by omega) (by omega) 2 (gw_2) rfl (cl_of_nI (i := w) rfl (by omega)) rfl (vp_in_of_nI (i := w) rfl (by omega) (by omega)) dX6_plug_37 ?_
  refine lv_iconst (v := 0) hx hb dX6_plug_38 (by decide) ?_
  refine x_put (ty := .int) (ref := RX4) (C := RX4) (T := TX4) (N := 5) (ci := 4) (v := .int (0 : Int32)) hx hb hts iX4 tyX4 tyX4_ok nmX4 hown hK.1 hP hS (by omega) (by omega) (gw_well (by omega)) rfl 2 (by decide) (hts (.fieldLink RX6 113 "PoreField$Well" "choke" "I") (by decide +kernel)) (fun _ h9 => h9) rfl (by decide +kernel) rfl rfl (Nat.le_of_ble_eq_true rfl) dX6_plug_39 (fun H locs hP hS => ?_)
  have hP := gp (k := 37 + 2 * w) (j := 2) (v := (0 : Int32)) hP (by omega) (by rw [gEr_well (by omega)]; rfl)
  have hG : GI nd (u2 G (37 + 2 * w) 2 (0 : Int32)) := hG.u (by omega)
  refine lv_aload_n hx hb dX6_plug_42 rfl (lv_at hl 1 rfl) ?_
  refine x_get (ref := RX6) (C := RX6) (T := TX6) (N := 11) (ci := 6) (v := .ref (o + 99)) hx hb hts iX6 hown hK.1 hP (by omega) (by omega) (((gw_out (by omega)).trans ((gw_out (by omega)).trans (hw_0)))) rfl 2 (by decide) (hts (.fieldLink RX6 21 "PoreField" "logs" "[LPoreField$WellLog;") (by decide +kernel)) (fun _ h9 => h9) rfl dX6_plug_43 ?_
  refine lv_iload_n hx hb dX6_plug_46 rfl (lv_at hl 2 rfl) ?_
  refine x_aald (b := (o + (103 + 2 * w))) hx hb hK.1 hP (by omega) (by omega) 3 (((gw_out (by omega)).trans ((gw_out (by omega)).trans (hw_99)))) rfl (cl_of_nI (i := w) rfl (by omega)) rfl (vp_in_of_nI (i := w) rfl (by omega) (by omega)) dX6_plug_47 ?_
  refine lv_iconst (v := 1) hx hb dX6_plug_48 (by decide) ?_
  refine x_put (ty := .boolean) (ref := RX5) (C := RX5) (T := TX5) (N := 5) (ci := 5) (v := .int (1 : Int32)) hx hb hts iX5 tyX5 tyX5_ok nmX5 hown hK.1 hP hS (by omega) (by omega) (((gw_out (by omega)).trans ((gw_out (by omega)).trans (hw_log (by omega))))) rfl 0 (by decide) (hts (.fieldLink RX6 125 "PoreField$WellLog" "isPlugged" "Z") (by decide +kernel)) (fun _ h9 => h9) rfl (by decide +kernel) (nar_z (Or.inr rfl)) (fit_z (Or.inr rfl)) (Nat.le_of_ble_eq_true rfl) dX6_plug_49 (fun H locs hP hS => ?_)
  have hP := hp2 (k := 103 + 2 * w) (j := 0) (v := (1 : Int32)) hP (by omega) (by omega) (by omega) (by rw [hEr_log (by omega)]; rfl)
  refine lv_iload_n hx hb dX6_plug_52 rfl (lv_at hl 0 rfl) ?_
  exact W.iret (v := (G (37 + 2 * w) 2)) hx hb hr (fun tE ht hW => ⟨⟨(G (37 + 2 * w) 2), (), rfl, rfl, x_at ht (hP)⟩, hS.F ht⟩) hS.2.2 dX6_plug_53

set_option maxRecDepth 100000 in
set_option maxHeartbeats 4000000 in
/-- capacity -/
theorem c_X6_capacity (l : Launch) (D : va_G) (cy : Nat → ClassId) (lo n : Nat) (w0 : Nat → va_E) (o : Nat) (G T P : Mem) (ho1 : lo ≤ o) (ho2 : o + 118 ≤ lo + n) (f : Nat) (hf : f < 3) (x : Int32) (hx1 : 0 ≤ x) (hx2 : x ≤ 99) : Met l yX6_capacity wsX6_capacity ({ frames := 1, cells := 0, slots := 0, locals := 22 }) (PcW D cy lo n (gw cy (gw cy (hw cy w0 o P) (o + 50) T) (o + 1) G) [.ref o, .int (nI f), .int x]) (QiW D lo n (gw cy (gw cy (hw cy w0 o P) (o + 50) T) (o + 1) (u2 G 3 f x)) (G 3 f)) 0 0 (fun q : Nat => lo ≤ q) := by
  refine Met.ofW (cc := cX6_capacity) (maxL := 4) (ret := (some .int)) (by decide) rfl ?_
  intro p e s m args below meth c s₁ B hml hv
  obtain ⟨rfl, hP, hK, hS⟩ := x_entry hv
  have hx := B.exec
  have hb := B.bytes
  have hr := B.returns
  have hts := atoms_spec (ws := wsX6_capacity) B.pre
  have hown : s.vm.findClass RX6 = some m.cls := findClass_of_methodNamed B.named
  have hlocks := B.notSynchronized
  have iX2 : ∀ w ∈ u_ws RX2 TX2 12, w ∈ wsX6_capacity := by decide +kernel
  have iX6 : ∀ w ∈ u_ws RX6 TX6 11, w ∈ wsX6_capacity := by decide +kernel
  have hl := lv_entry ([.ref o, .int (nI f), .int x]) (n := 4) (Nat.le_of_ble_eq_true rfl)
  rw [lg_entry_eq]
  generalize (lg_sl ([.ref o, .int (nI f), .int x]) ++ List.replicate (4 - (lg_sl ([.ref o, .int (nI f), .int x])).length) Slot.unset).toArray = ls at hl ⊢
  have hl : lv_has ls 4 [(0, .ref o), (1, .int (nI f)), (2, .int x)] := hl
  refine lv_iload_n hx hb dX6_capacity_0 rfl (lv_at hl 1 rfl) ?_
  refine lv_iconst (v := 3) hx hb dX6_capacity_1 (by decide) ?_
  refine x_callv (va_runS (As := [.int (nI f), .int (3 : Int32)]) (rest := []) ⟨hx, hb, hml, hown, hts⟩ (c_X6_needIndex l D cy lo n (gw cy (gw cy (hw cy w0 o P) (o + 50) T) (o + 1) G) f 3 (by omega) (by omega) (nI f) (3 : Int32) rfl rfl) (va_cwS 2 hts gX6_capacity_X6_needIndex rfl rfl rfl (by decide +kernel) ⟨Nat.le_of_ble_eq_true rfl, Nat.le_of_ble_eq_true rfl⟩) (preS hP hK) rfl rfl hl.1 rfl (lv_room (Nat.le_of_ble_eq_true rfl)) dX6_capacity_2 ⟨Nat.le_of_ble_eq_true rfl, Nat.le_of_ble_eq_true rfl⟩) hS (fun H locs hP hS => ?_)
  refine lv_iload_n hx hb dX6_capacity_5 rfl (lv_at hl 2 rfl) ?_
  refine lv_iconst (v := 0) hx hb dX6_capacity_6 (by decide) ?_
  refine lv_bipush (v := 99) hx hb dX6_capacity_7 (by decide) ?_
  refine x_callv (va_runS (As := [.int x, .int (0 : Int32), .int (99 : Int32)]) (rest := []) ⟨hx, hb, hml, hown, hts⟩ (c_X6_needWithin l D cy lo n (gw cy (gw cy (hw cy w0 o P) (o + 50) T) (o + 1) G) x (0 : Int32) (99 : Int32) hx1 hx2) (va_cwS 3 hts gX6_capacity_X6_needWithin rfl rfl rfl (by decide +kernel) ⟨Nat.le_of_ble_eq_true rfl, Nat.le_of_ble_eq_true rfl⟩) (preS hP hK) rfl rfl hl.1 rfl (lv_room (Nat.le_of_ble_eq_true rfl)) dX6_capacity_9 ⟨Nat.le_of_ble_eq_true rfl, Nat.le_of_ble_eq_true rfl⟩) hS (fun H locs hP hS => ?_)
  refine lv_aload_n hx hb dX6_capacity_12 rfl (lv_at hl 0 rfl) ?_
  refine x_get (ref := RX6) (C := RX6) (T := TX6) (N := 11) (ci := 6) (v := .ref (o + 1)) hx hb hts iX6 hown hK.1 hP (by omega) (by omega) (((gw_out (by omega)).trans ((gw_out (by omega)).trans (hw_0)))) rfl 0 (by decide) (hts (.fieldLink RX6 10 "PoreField" "ground" "LPoreField$Ground;") (by decide +kernel)) (fun _ h9 => h9) rfl dX6_capacity_13 ?_
  refine x_get (ref := RX2) (C := RX2) (T := TX2) (N := 12) (ci := 2) (v := .ref ((o + 1) + 3)) hx hb hts iX2 hown hK.1 hP (by omega) (by omega) (gw_0) rfl 3 (by decide) (hts (.fieldLink RX6 128 "PoreField$Ground" "capacity" "[I") (by decide +kernel)) (fun _ h9 => h9) rfl dX6_capacity_16 ?_
  refine lv_iload_n hx hb dX6_capacity_19 rfl (lv_at hl 1 rfl) ?_
  refine x_iald hx hb hK.1 hP (by omega) (by omega) 0 (gw_row (gRow_3)) rfl (cl_of_nI (i := f) rfl (by omega)) (vp_in_of_nI (i := f) rfl (by omega) (by omega)) dX6_capacity_20 ?_
  refine lv_istore_n (lv' := [(3, .int (G (3) f)), (0, .ref o), (1, .int (nI f)), (2, .int x)]) hx hb dX6_capacity_21 rfl hl (by decide) rfl (fun ls hl => ?_)
  refine lv_aload_n hx hb dX6_capacity_22 rfl (lv_at hl 1 rfl) ?_
  refine x_get (ref := RX6) (C := RX6) (T := TX6) (N := 11) (ci := 6) (v := .ref (o + 1)) hx hb hts iX6 hown hK.1 hP (by omega) (by omega) (((gw_out (by omega)).trans ((gw_out (by omega)).trans (hw_0)))) rfl 0 (by decide) (hts (.fieldLink RX6 10 "PoreField" "ground" "LPoreField$Ground;") (by decide +kernel)) (fun _ h9 => h9) rfl dX6_capacity_23 ?_
  refine x_get (ref := RX2) (C := RX2) (T := TX2) (N := 12) (ci := 2) (v := .ref ((o + 1) + 3)) hx hb hts iX2 hown hK.1 hP (by omega) (by omega) (gw_0) rfl 3 (by decide) (hts (.fieldLink RX6 128 "PoreField$Ground" "capacity" "[I") (by decide +kernel)) (fun _ h9 => h9) rfl dX6_capacity_26 ?_
  refine lv_iload_n hx hb dX6_capacity_29 rfl (lv_at hl 2 rfl) ?_
  refine lv_iload_n hx hb dX6_capacity_30 rfl (lv_at hl 3 rfl) ?_
  refine x_iast (v := x) hx hb hK.1 hP hS (by omega) (by omega) 0 (gw_row (gRow_3)) rfl (cl_of_nI (i := f) rfl (by omega)) (vp_in_of_nI (i := f) rfl (by omega) (by omega)) dX6_capacity_31 (fun H locs hP hS => ?_)
  have hP := gpr (k := 3) (j := f) (v := x) hP (gRow_3)
  refine lv_iload_n hx hb dX6_capacity_32 rfl (lv_at hl 0 rfl) ?_
  exact W.iret (v := (G (3) f)) hx hb hr (fun tE ht hW => ⟨⟨(G (3) f), (), rfl, rfl, x_at ht (hP)⟩, hS.F ht⟩) hS.2.2 dX6_capacity_33

set_option maxRecDepth 100000 in
set_option maxHeartbeats 4000000 in
/-- permit -/
theorem c_X6_permit (l : Launch) (D : va_G) (cy : Nat → ClassId) (lo n : Nat) (w0 : Nat → va_E) (o : Nat) (G T P : Mem) (ho1 : lo ≤ o) (ho2 : o + 118 ≤ lo + n) (x : Int32) (hx1 : 0 ≤ x) (hx2 : x ≤ 99) : Met l yX6_permit wsX6_permit ({ frames := 1, cells := 0, slots := 0, locals := 22 }) (PcW D cy lo n (gw cy (gw cy (hw cy w0 o P) (o + 50) T) (o + 1) G) [.ref o, .int x]) (QiW D lo n (gw cy (gw cy (hw cy w0 o P) (o + 50) T) (o + 1) (u2 G 0 4 x)) (G 0 4)) 0 0 (fun q : Nat => lo ≤ q) := by
  refine Met.ofW (cc := cX6_permit) (maxL := 3) (ret := (some .int)) (by decide) rfl ?_
  intro p e s m args below meth c s₁ B hml hv
  obtain ⟨rfl, hP, hK, hS⟩ := x_entry hv
  have hx := B.exec
  have hb := B.bytes
  have hr := B.returns
  have hts := atoms_spec (ws := wsX6_permit) B.pre
  have hown : s.vm.findClass RX6 = some m.cls := findClass_of_methodNamed B.named
  have hlocks := B.notSynchronized
  have iX2 : ∀ w ∈ u_ws RX2 TX2 12, w ∈ wsX6_permit := by decide +kernel
  have iX6 : ∀ w ∈ u_ws RX6 TX6 11, w ∈ wsX6_permit := by decide +kernel
  have hl := lv_entry ([.ref o, .int x]) (n := 3) (Nat.le_of_ble_eq_true rfl)
  rw [lg_entry_eq]
  generalize (lg_sl ([.ref o, .int x]) ++ List.replicate (3 - (lg_sl ([.ref o, .int x])).length) Slot.unset).toArray = ls at hl ⊢
  have hl : lv_has ls 3 [(0, .ref o), (1, .int x)] := hl
  refine lv_iload_n hx hb dX6_permit_0 rfl (lv_at hl 1 rfl) ?_
  refine lv_iconst (v := 0) hx hb dX6_permit_1 (by decide) ?_
  refine lv_bipush (v := 99) hx hb dX6_permit_2 (by decide) ?_
  refine x_callv (va_runS (As := [.int x, .int (0 : Int32), .int (99 : Int32)]) (rest := []) ⟨hx, hb, hml, hown, hts⟩ (c_X6_needWithin l D cy lo n (gw cy (gw cy (hw cy w0 o P) (o + 50) T) (o + 1) G) x (0 : Int32) (99 : Int32) hx1 hx2) (va_cwS 3 hts gX6_permit_X6_needWithin rfl rfl rfl (by decide +kernel) ⟨Nat.le_of_ble_eq_true rfl, Nat.le_of_ble_eq_true rfl⟩) (preS hP hK) rfl rfl hl.1 rfl (lv_room (Nat.le_of_ble_eq_true rfl)) dX6_permit_4 ⟨Nat.le_of_ble_eq_true rfl, Nat.le_of_ble_eq_true rfl⟩) hS (fun H locs hP hS => ?_)
  refine lv_aload_n hx hb dX6_permit_7 rfl (lv_at hl 0 rfl) ?_
  refine x_get (ref := RX6) (C := RX6) (T := TX6) (N := 11) (ci := 6) (v := .ref (o + 1)) hx hb hts iX6 hown hK.1 hP (by omega) (by omega) (((gw_out (by omega)).trans ((gw_out (by omega)).trans (hw_0)))) rfl 0 (by decide) (hts (.fieldLink RX6 10 "PoreField" "ground" "LPoreField$Ground;") (by decide +kernel)) (fun _ h9 => h9) rfl dX6_permit_8 ?_
  refine x_get (ref := RX2) (C := RX2) (T := TX2) (N := 12) (ci := 2) (v := .int (G 0 4)) hx hb hts iX2 hown hK.1 hP (by omega) (by omega) (gw_0) rfl 4 (by decide) (hts (.fieldLink RX6 131 "PoreField$Ground" "permit" "I") (by decide +kernel)) (fun _ h9 => h9) rfl dX6_permit_11 ?_
  refine lv_istore_n (lv' := [(2, .int (G 0 4)), (0, .ref o), (1, .int x)]) hx hb dX6_permit_14 rfl hl (by decide) rfl (fun ls hl => ?_)
  refine lv_aload_n hx hb dX6_permit_15 rfl (lv_at hl 1 rfl) ?_
  refine x_get (ref := RX6) (C := RX6) (T := TX6) (N := 11) (ci := 6) (v := .ref (o + 1)) hx hb hts iX6 hown hK.1 hP (by omega) (by omega) (((gw_out (by omega)).trans ((gw_out (by omega)).trans (hw_0)))) rfl 0 (by decide) (hts (.fieldLink RX6 10 "PoreField" "ground" "LPoreField$Ground;") (by decide +kernel)) (fun _ h9 => h9) rfl dX6_permit_16 ?_
  refine lv_iload_n hx hb dX6_permit_19 rfl (lv_at hl 2 rfl) ?_
  refine x_put (ty := .int) (ref := RX2) (C := RX2) (T := TX2) (N := 12) (ci := 2) (v := .int x) hx hb hts iX2 tyX2 tyX2_ok nmX2 hown hK.1 hP hS (by omega) (by omega) (gw_0) rfl 4 (by decide) (hts (.fieldLink RX6 131 "PoreField$Ground" "permit" "I") (by decide +kernel)) (fun _ h9 => h9) rfl (by decide +kernel) rfl rfl (Nat.le_of_ble_eq_true rfl) dX6_permit_20 (fun H locs hP hS => ?_)
  have hP := gp0 (j := 4) (v := x) hP (rfl)
  refine lv_iload_n hx hb dX6_permit_23 rfl (lv_at hl 0 rfl) ?_
  exact W.iret (v := (G 0 4)) hx hb hr (fun tE ht hW => ⟨⟨(G 0 4), (), rfl, rfl, x_at ht (hP)⟩, hS.F ht⟩) hS.2.2 dX6_permit_24
