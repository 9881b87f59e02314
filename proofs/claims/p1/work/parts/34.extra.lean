/-! the class: tank, price, shares, lift -/
set_option maxRecDepth 100000 in
set_option maxHeartbeats 4000000 in
/-- tank -/
theorem c_X6_tank (l : Launch) (D : va_G) (cy : Nat → ClassId) (lo n : Nat) (w0 : Nat → va_E) (o : Nat) (G T P : Mem) (ho1 : lo ≤ o) (ho2 : o + 118 ≤ lo + n) (x : Int32) (hx1 : 0 ≤ x) (hx2 : x ≤ 999) (ht : G 0 6 ≤ x) : Met l yX6_tank wsX6_tank ({ frames := 1, cells := 0, slots := 0, locals := 22 }) (PcW D cy lo n (gw cy (gw cy (hw cy w0 o P) (o + 50) T) (o + 1) G) [.ref o, .int x]) (QiW D lo n (gw cy (gw cy (hw cy w0 o P) (o + 50) T) (o + 1) (u2 G (0) 5 x)) ((u2 G 0 5 x) 0 6)) 0 0 (fun q : Nat => lo ≤ q) := by
  refine Met.ofW (cc := cX6_tank) (maxL := 2) (ret := (some .int)) (by decide) rfl ?_
  intro p e s m args below meth c s₁ B hml hv
  obtain ⟨rfl, hP, hK, hS⟩ := x_entry hv
  have hx := B.exec
  have hb := B.bytes
  have hr := B.returns
  have hts := atoms_spec (ws := wsX6_tank) B.pre
  have hown : s.vm.findClass RX6 = some m.cls := findClass_of_methodNamed B.named
  have hlocks := B.notSynchronized
  have iX2 : ∀ w ∈ u_ws RX2 TX2 12, w ∈ wsX6_tank := by decide +kernel
  have iX6 : ∀ w ∈ u_ws RX6 TX6 11, w ∈ wsX6_tank := by decide +kernel
  have hl := lv_entry ([.ref o, .int x]) (n := 2) (Nat.le_of_ble_eq_true rfl)
  rw [lg_entry_eq]
  generalize (lg_sl ([.ref o, .int x]) ++ List.replicate (2 - (lg_sl ([.ref o, .int x])).length) Slot.unset).toArray = ls at hl ⊢
  have hl : lv_has ls 2 [(0, .ref o), (1, .int x)] := hl
  refine lv_iload_n hx hb dX6_tank_0 rfl (lv_at hl 1 rfl) ?_
  refine lv_iconst (v := 0) hx hb dX6_tank_1 (by decide) ?_
  refine lv_sipush (v := 999) hx hb dX6_tank_2 (by decide) ?_
  refine x_callv (va_runS (As := [.int x, .int (0 : Int32), .int (999 : Int32)]) (rest := []) ⟨hx, hb, hml, hown, hts⟩ (c_X6_needWithin l D cy lo n (gw cy (gw cy (hw cy w0 o P) (o + 50) T) (o + 1) G) x (0 : Int32) (999 : Int32) hx1 hx2) (va_cwS 3 hts gX6_tank_X6_needWithin rfl rfl rfl (by decide +kernel) ⟨Nat.le_of_ble_eq_true rfl, Nat.le_of_ble_eq_true rfl⟩) (preS hP hK) rfl rfl hl.1 rfl (lv_room (Nat.le_of_ble_eq_true rfl)) dX6_tank_5 ⟨Nat.le_of_ble_eq_true rfl, Nat.le_of_ble_eq_true rfl⟩) hS (fun H locs hP hS => ?_)
  refine lv_aload_n hx hb dX6_tank_8 rfl (lv_at hl 0 rfl) ?_
  refine x_get (ref := RX6) (C := RX6) (T := TX6) (N := 11) (ci := 6) (v := .ref (o + 1)) hx hb hts iX6 hown hK.1 hP (by omega) (by omega) (((gw_out (by omega)).trans ((gw_out (by omega)).trans (hw_0)))) rfl 0 (by decide) (hts (.fieldLink RX6 10 "PoreField" "ground" "LPoreField$Ground;") (by decide +kernel)) (fun _ h9 => h9) rfl dX6_tank_9 ?_
  refine x_get (ref := RX2) (C := RX2) (T := TX2) (N := 12) (ci := 2) (v := .int (G 0 6)) hx hb hts iX2 hown hK.1 hP (by omega) (by omega) (gw_0) rfl 6 (by decide) (hts (.fieldLink RX6 134 "PoreField$Ground" "tankHas" "I") (by decide +kernel)) (fun _ h9 => h9) rfl dX6_tank_12 ?_
  refine lv_iload_n hx hb dX6_tank_15 rfl (lv_at hl 1 rfl) ?_
  refine lv_icmp_le (tgt := 29) hx hb dX6_tank_16 (by decide) (fun _ => ?_) (fun c => absurd ht c)
  refine lv_aload_n hx hb dX6_tank_29 rfl (lv_at hl 0 rfl) ?_
  refine x_get (ref := RX6) (C := RX6) (T := TX6) (N := 11) (ci := 6) (v := .ref (o + 1)) hx hb hts iX6 hown hK.1 hP (by omega) (by omega) (((gw_out (by omega)).trans ((gw_out (by omega)).trans (hw_0)))) rfl 0 (by decide) (hts (.fieldLink RX6 10 "PoreField" "ground" "LPoreField$Ground;") (by decide +kernel)) (fun _ h9 => h9) rfl dX6_tank_30 ?_
  refine lv_iload_n hx hb dX6_tank_33 rfl (lv_at hl 1 rfl) ?_
  refine x_put (ty := .int) (ref := RX2) (C := RX2) (T := TX2) (N := 12) (ci := 2) (v := .int x) hx hb hts iX2 tyX2 tyX2_ok nmX2 hown hK.1 hP hS (by omega) (by omega) (gw_0) rfl 5 (by decide) (hts (.fieldLink RX6 139 "PoreField$Ground" "tankSize" "I") (by decide +kernel)) (fun _ h9 => h9) rfl (by decide +kernel) rfl rfl (Nat.le_of_ble_eq_true rfl) dX6_tank_34 (fun H locs hP hS => ?_)
  have hP := gp0 (j := 5) (v := x) hP (rfl)
  refine lv_aload_n hx hb dX6_tank_37 rfl (lv_at hl 0 rfl) ?_
  refine x_get (ref := RX6) (C := RX6) (T := TX6) (N := 11) (ci := 6) (v := .ref (o + 1)) hx hb hts iX6 hown hK.1 hP (by omega) (by omega) (((gw_out (by omega)).trans ((gw_out (by omega)).trans (hw_0)))) rfl 0 (by decide) (hts (.fieldLink RX6 10 "PoreField" "ground" "LPoreField$Ground;") (by decide +kernel)) (fun _ h9 => h9) rfl dX6_tank_38 ?_
  refine x_get (ref := RX2) (C := RX2) (T := TX2) (N := 12) (ci := 2) (v := .int ((u2 G (0) 5 x) 0 6)) hx hb hts iX2 hown hK.1 hP (by omega) (by omega) (gw_0) rfl 6 (by decide) (hts (.fieldLink RX6 134 "PoreField$Ground" "tankHas" "I") (by decide +kernel)) (fun _ h9 => h9) rfl dX6_tank_41 ?_
  exact W.iret (v := ((u2 G (0) 5 x) 0 6)) hx hb hr (fun tE ht hW => ⟨⟨((u2 G (0) 5 x) 0 6), (), rfl, rfl, x_at ht (hP)⟩, hS.F ht⟩) hS.2.2 dX6_tank_44

set_option maxRecDepth 100000 in
set_option maxHeartbeats 4000000 in
/-- price -/
theorem c_X6_price (l : Launch) (D : va_G) (cy : Nat → ClassId) (lo n : Nat) (w0 : Nat → va_E) (o : Nat) (G T P : Mem) (ho1 : lo ≤ o) (ho2 : o + 118 ≤ lo + n) (x : Int32) (hx1 : 0 ≤ x) (hx2 : x ≤ 99) : Met l yX6_price wsX6_price ({ frames := 1, cells := 0, slots := 0, locals := 22 }) (PcW D cy lo n (gw cy (gw cy (hw cy w0 o P) (o + 50) T) (o + 1) G) [.ref o, .int x]) (QiW D lo n (gw cy (gw cy (hw cy w0 o (u2 P (0) 7 x)) (o + 50) T) (o + 1) G) (P 0 7)) 0 0 (fun q : Nat => lo ≤ q) := by
  refine Met.ofW (cc := cX6_price) (maxL := 3) (ret := (some .int)) (by decide) rfl ?_
  intro p e s m args below meth c s₁ B hml hv
  obtain ⟨rfl, hP, hK, hS⟩ := x_entry hv
  have hx := B.exec
  have hb := B.bytes
  have hr := B.returns
  have hts := atoms_spec (ws := wsX6_price) B.pre
  have hown : s.vm.findClass RX6 = some m.cls := findClass_of_methodNamed B.named
  have hlocks := B.notSynchronized
  have iX6 : ∀ w ∈ u_ws RX6 TX6 11, w ∈ wsX6_price := by decide +kernel
  have hl := lv_entry ([.ref o, .int x]) (n := 3) (Nat.le_of_ble_eq_true rfl)
  rw [lg_entry_eq]
  generalize (lg_sl ([.ref o, .int x]) ++ List.replicate (3 - (lg_sl ([.ref o, .int x])).length) Slot.unset).toArray = ls at hl ⊢
  have hl : lv_has ls 3 [(0, .ref o), (1, .int x)] := hl
  refine lv_iload_n hx hb dX6_price_0 rfl (lv_at hl 1 rfl) ?_
  refine lv_iconst (v := 0) hx hb dX6_price_1 (by decide) ?_
  refine lv_bipush (v := 99) hx hb dX6_price_2 (by decide) ?_
  refine x_callv (va_runS (As := [.int x, .int (0 : Int32), .int (99 : Int32)]) (rest := []) ⟨hx, hb, hml, hown, hts⟩ (c_X6_needWithin l D cy lo n (gw cy (gw cy (hw cy w0 o P) (o + 50) T) (o + 1) G) x (0 : Int32) (99 : Int32) hx1 hx2) (va_cwS 3 hts gX6_price_X6_needWithin rfl rfl rfl (by decide +kernel) ⟨Nat.le_of_ble_eq_true rfl, Nat.le_of_ble_eq_true rfl⟩) (preS hP hK) rfl rfl hl.1 rfl (lv_room (Nat.le_of_ble_eq_true rfl)) dX6_price_4 ⟨Nat.le_of_ble_eq_true rfl, Nat.le_of_ble_eq_true rfl⟩) hS (fun H locs hP hS => ?_)
  refine lv_aload_n hx hb dX6_price_7 rfl (lv_at hl 0 rfl) ?_
  refine x_get (ref := RX6) (C := RX6) (T := TX6) (N := 11) (ci := 6) (v := .int (P 0 7)) hx hb hts iX6 hown hK.1 hP (by omega) (by omega) (((gw_out (by omega)).trans ((gw_out (by omega)).trans (hw_0)))) rfl 7 (by decide) (hts (.fieldLink RX6 42 "PoreField" "price" "I") (by decide +kernel)) (fun _ h9 => h9) rfl dX6_price_8 ?_
  refine lv_istore_n (lv' := [(2, .int (P 0 7)), (0, .ref o), (1, .int x)]) hx hb dX6_price_11 rfl hl (by decide) rfl (fun ls hl => ?_)
  refine lv_aload_n hx hb dX6_price_12 rfl (lv_at hl 1 rfl) ?_
  refine lv_iload_n hx hb dX6_price_13 rfl (lv_at hl 2 rfl) ?_
  refine x_put (ty := .int) (ref := RX6) (C := RX6) (T := TX6) (N := 11) (ci := 6) (v := .int x) hx hb hts iX6 tyX6 tyX6_ok nmX6 hown hK.1 hP hS (by omega) (by omega) (((gw_out (by omega)).trans ((gw_out (by omega)).trans (hw_0)))) rfl 7 (by decide) (hts (.fieldLink RX6 42 "PoreField" "price" "I") (by decide +kernel)) (fun _ h9 => h9) rfl (by decide +kernel) rfl rfl (Nat.le_of_ble_eq_true rfl) dX6_price_14 (fun H locs hP hS => ?_)
  have hP := hp20 (j := 7) (v := x) hP (by omega) (by omega) (rfl)
  refine lv_iload_n hx hb dX6_price_17 rfl (lv_at hl 0 rfl) ?_
  exact W.iret (v := (P 0 7)) hx hb hr (fun tE ht hW => ⟨⟨(P 0 7), (), rfl, rfl, x_at ht (hP)⟩, hS.F ht⟩) hS.2.2 dX6_price_18

set_option maxRecDepth 100000 in
set_option maxHeartbeats 4000000 in
/-- shares -/
theorem c_X6_shares (l : Launch) (D : va_G) (cy : Nat → ClassId) (lo n : Nat) (w0 : Nat → va_E) (o : Nat) (G T P : Mem) (ho1 : lo ≤ o) (ho2 : o + 118 ≤ lo + n) (x y : Int32) (hx1 : 0 ≤ x) (hx2 : x ≤ 100) (hy1 : 0 ≤ y) (hy2 : y ≤ 100 - x) : Met l yX6_shares wsX6_shares ({ frames := 1, cells := 0, slots := 0, locals := 22 }) (PcW D cy lo n (gw cy (gw cy (hw cy w0 o P) (o + 50) T) (o + 1) G) [.ref o, .int x, .int y]) (QiW D lo n (gw cy (gw cy (hw cy w0 o (u2 (u2 (u2 P (115 + 0) 0 x) (115 + 1) 0 y) (115 + 2) 0 (((100 : Int32) - x) - y))) (o + 50) T) (o + 1) G) (100 - x - y)) 0 0 (fun q : Nat => lo ≤ q) := by
  refine Met.ofW (cc := cX6_shares) (maxL := 3) (ret := (some .int)) (by decide) rfl ?_
  intro p e s m args below meth c s₁ B hml hv
  obtain ⟨rfl, hP, hK, hS⟩ := x_entry hv
  have hx := B.exec
  have hb := B.bytes
  have hr := B.returns
  have hts := atoms_spec (ws := wsX6_shares) B.pre
  have hown : s.vm.findClass RX6 = some m.cls := findClass_of_methodNamed B.named
  have hlocks := B.notSynchronized
  have iX3 : ∀ w ∈ u_ws RX3 TX3 4, w ∈ wsX6_shares := by decide +kernel
  have iX6 : ∀ w ∈ u_ws RX6 TX6 11, w ∈ wsX6_shares := by decide +kernel
  have hl := lv_entry ([.ref o, .int x, .int y]) (n := 3) (Nat.le_of_ble_eq_true rfl)
  rw [lg_entry_eq]
  generalize (lg_sl ([.ref o, .int x, .int y]) ++ List.replicate (3 - (lg_sl ([.ref o, .int x, .int y])).length) Slot.unset).toArray = ls at hl ⊢
  have hl : lv_has ls 3 [(0, .ref o), (1, .int x), (2, .int y)] := hl
  refine lv_iload_n hx hb dX6_shares_0 rfl (lv_at hl 1 rfl) ?_
  refine lv_iconst (v := 0) hx hb dX6_shares_1 (by decide) ?_
  refine lv_bipush (v := 100) hx hb dX6_shares_2 (by decide) ?_
  refine x_callv (va_runS (As := [.int x, .int (0 : Int32), .int (100 : Int32)]) (rest := []) ⟨hx, hb, hml, hown, hts⟩ (c_X6_needWithin l D cy lo n (gw cy (gw cy (hw cy w0 o P) (o + 50) T) (o + 1) G) x (0 : Int32) (100 : Int32) hx1 hx2) (va_cwS 3 hts gX6_shares_X6_needWithin rfl rfl rfl (by decide +kernel) ⟨Nat.le_of_ble_eq_true rfl, Nat.le_of_ble_eq_true rfl⟩) (preS hP hK) rfl rfl hl.1 rfl (lv_room (Nat.le_of_ble_eq_true rfl)) dX6_shares_4 ⟨Nat.le_of_ble_eq_true rfl, Nat.le_of_ble_eq_true rfl⟩) hS (fun H locs hP hS => ?_)
  refine lv_iload_n hx hb dX6_shares_7 rfl (lv_at hl 2 rfl) ?_
  refine lv_iconst (v := 0) hx hb dX6_shares_8 (by decide) ?_
  refine lv_bipush (v := 100) hx hb dX6_shares_9 (by decide) ?_
  refine lv_iload_n hx hb dX6_shares_11 rfl (lv_at hl 1 rfl) ?_
  refine lv_isub hx hb dX6_shares_12 ?_
  refine x_callv (va_runS (As := [.int y, .int (0 : Int32), .int ((100 : Int32) - x)]) (rest := []) ⟨hx, hb, hml, hown, hts⟩ (c_X6_needWithin l D cy lo n (gw cy (gw cy (hw cy w0 o P) (o + 50) T) (o + 1) G) y (0 : Int32) ((100 : Int32) - x) hy1 hy2) (va_cwS 3 hts gX6_shares_X6_needWithin rfl rfl rfl (by decide +kernel) ⟨Nat.le_of_ble_eq_true rfl, Nat.le_of_ble_eq_true rfl⟩) (preS hP hK) rfl rfl hl.1 rfl (lv_room (Nat.le_of_ble_eq_true rfl)) dX6_shares_13 ⟨Nat.le_of_ble_eq_true rfl, Nat.le_of_ble_eq_true rfl⟩) hS (fun H locs hP hS => ?_)
  refine lv_aload_n hx hb dX6_shares_16 rfl (lv_at hl 0 rfl) ?_
  refine x_get (ref := RX6) (C := RX6) (T := TX6) (N := 11) (ci := 6) (v := .ref (o + 100)) hx hb hts iX6 hown hK.1 hP (by omega) (by omega) (((gw_out (by omega)).trans ((gw_out (by omega)).trans (hw_0)))) rfl 3 (by decide) (hts (.fieldLink RX6 27 "PoreField" "partners" "[LPoreField$Partner;") (by decide +kernel)) (fun _ h9 => h9) rfl dX6_shares_17 ?_
  refine lv_iconst (v := 0) hx hb dX6_shares_20 (by decide) ?_
  refine x_aald (b := (o + (115 + 0))) hx hb hK.1 hP (by omega) (by omega) 4 (((gw_out (by omega)).trans ((gw_out (by omega)).trans (hw_100)))) rfl (cl_of_nI (i := 0) rfl (by omega)) rfl (vp_in_of_nI (i := 0) rfl (by omega) (by omega)) dX6_shares_21 ?_
  refine lv_iload_n hx hb dX6_shares_22 rfl (lv_at hl 1 rfl) ?_
  refine x_put (ty := .int) (ref := RX3) (C := RX3) (T := TX3) (N := 4) (ci := 3) (v := .int x) hx hb hts iX3 tyX3 tyX3_ok nmX3 hown hK.1 hP hS (by omega) (by omega) (((gw_out (by omega)).trans ((gw_out (by omega)).trans (hw_par (by omega))))) rfl 0 (by decide) (hts (.fieldLink RX6 48 "PoreField$Partner" "share" "I") (by decide +kernel)) (fun _ h9 => h9) rfl (by decide +kernel) rfl rfl (Nat.le_of_ble_eq_true rfl) dX6_shares_23 (fun H locs hP hS => ?_)
  have hP := hp2 (k := 115 + 0) (j := 0) (v := x) hP (by omega) (by omega) (by omega) (by rw [hEr_par (by omega)]; rfl)
  refine lv_aload_n hx hb dX6_shares_26 rfl (lv_at hl 0 rfl) ?_
  refine x_get (ref := RX6) (C := RX6) (T := TX6) (N := 11) (ci := 6) (v := .ref (o + 100)) hx hb hts iX6 hown hK.1 hP (by omega) (by omega) (((gw_out (by omega)).trans ((gw_out (by omega)).trans (hw_0)))) rfl 3 (by decide) (hts (.fieldLink RX6 27 "PoreField" "partners" "[LPoreField$Partner;") (by decide +kernel)) (fun _ h9 => h9) rfl dX6_shares_27 ?_
  refine lv_iconst (v := 1) hx hb dX6_shares_30 (by decide) ?_
  refine x_aald (b := (o + (115 + 1))) hx hb hK.1 hP (by omega) (by omega) 4 (((gw_out (by omega)).trans ((gw_out (by omega)).trans (hw_100)))) rfl (cl_of_nI (i := 1) rfl (by omega)) rfl (vp_in_of_nI (i := 1) rfl (by omega) (by omega)) dX6_shares_31 ?_
  refine lv_iload_n hx hb dX6_shares_32 rfl (lv_at hl 2 rfl) ?_
  refine x_put (ty := .int) (ref := RX3) (C := RX3) (T := TX3) (N := 4) (ci := 3) (v := .int y) hx hb hts iX3 tyX3 tyX3_ok nmX3 hown hK.1 hP hS (by omega) (by omega) (((gw_out (by omega)).trans ((gw_out (by omega)).trans (hw_par (by omega))))) rfl 0 (by decide) (hts (.fieldLink RX6 48 "PoreField$Partner" "share" "I") (by decide +kernel)) (fun _ h9 => h9) rfl (by decide +kernel) rfl rfl (Nat.le_of_ble_eq_true rfl) dX6_shares_33 (fun H locs hP hS => ?_)
  have hP := hp2 (k := 115 + 1) (j := 0) (v := y) hP (by omega) (by omega) (by omega) (by rw [hEr_par (by omega)]; rfl)
  refine lv_aload_n hx hb dX6_shares_36 rfl (lv_at hl 0 rfl) ?_
  refine x_get (ref := RX6) (C := RX6) (T := TX6) (N := 11) (ci := 6) (v := .ref (o + 100)) hx hb hts iX6 hown hK.1 hP (by omega) (by omega) (((gw_out (by omega)).trans ((gw_out (by omega)).trans (hw_0)))) rfl 3 (by decide) (hts (.fieldLink RX6 27 "PoreField" "partners" "[LPoreField$Partner;") (by decide +kernel)) (fun _ h9 => h9) rfl dX6_shares_37 ?_
  refine lv_iconst (v := 2) hx hb dX6_shares_40 (by decide) ?_
  refine x_aald (b := (o + (115 + 2))) hx hb hK.1 hP (by omega) (by omega) 4 (((gw_out (by omega)).trans ((gw_out (by omega)).trans (hw_100)))) rfl (cl_of_nI (i := 2) rfl (by omega)) rfl (vp_in_of_nI (i := 2) rfl (by omega) (by omega)) dX6_shares_41 ?_
  refine lv_bipush (v := 100) hx hb dX6_shares_42 (by decide) ?_
  refine lv_iload_n hx hb dX6_shares_44 rfl (lv_at hl 1 rfl) ?_
  refine lv_isub hx hb dX6_shares_45 ?_
  refine lv_iload_n hx hb dX6_shares_46 rfl (lv_at hl 2 rfl) ?_
  refine lv_isub hx hb dX6_shares_47 ?_
  refine x_put (ty := .int) (ref := RX3) (C := RX3) (T := TX3) (N := 4) (ci := 3) (v := .int (((100 : Int32) - x) - y)) hx hb hts iX3 tyX3 tyX3_ok nmX3 hown hK.1 hP hS (by omega) (by omega) (((gw_out (by omega)).trans ((gw_out (by omega)).trans (hw_par (by omega))))) rfl 0 (by decide) (hts (.fieldLink RX6 48 "PoreField$Partner" "share" "I") (by decide +kernel)) (fun _ h9 => h9) rfl (by decide +kernel) rfl rfl (Nat.le_of_ble_eq_true rfl) dX6_shares_48 (fun H locs hP hS => ?_)
  have hP := hp2 (k := 115 + 2) (j := 0) (v := (((100 : Int32) - x) - y)) hP (by omega) (by omega) (by omega) (by rw [hEr_par (by omega)]; rfl)
  refine lv_aload_n hx hb dX6_shares_51 rfl (lv_at hl 0 rfl) ?_
  refine x_get (ref := RX6) (C := RX6) (T := TX6) (N := 11) (ci := 6) (v := .ref (o + 100)) hx hb hts iX6 hown hK.1 hP (by omega) (by omega) (((gw_out (by omega)).trans ((gw_out (by omega)).trans (hw_0)))) rfl 3 (by decide) (hts (.fieldLink RX6 27 "PoreField" "partners" "[LPoreField$Partner;") (by decide +kernel)) (fun _ h9 => h9) rfl dX6_shares_52 ?_
  refine lv_iconst (v := 2) hx hb dX6_shares_55 (by decide) ?_
  refine x_aald (b := (o + (115 + 2))) hx hb hK.1 hP (by omega) (by omega) 4 (((gw_out (by omega)).trans ((gw_out (by omega)).trans (hw_100)))) rfl (cl_of_nI (i := 2) rfl (by omega)) rfl (vp_in_of_nI (i := 2) rfl (by omega) (by omega)) dX6_shares_56 ?_
  refine x_get (ref := RX3) (C := RX3) (T := TX3) (N := 4) (ci := 3) (v := .int ((u2 (u2 (u2 P (115 + 0) 0 x) (115 + 1) 0 y) (115 + 2) 0 (((100 : Int32) - x) - y)) (115 + 2) 0)) hx hb hts iX3 hown hK.1 hP (by omega) (by omega) (((gw_out (by omega)).trans ((gw_out (by omega)).trans (hw_par (by omega))))) rfl 0 (by decide) (hts (.fieldLink RX6 48 "PoreField$Partner" "share" "I") (by decide +kernel)) (fun _ h9 => h9) rfl dX6_shares_57 ?_
  exact W.iret (v := ((u2 (u2 (u2 P (115 + 0) 0 x) (115 + 1) 0 y) (115 + 2) 0 (((100 : Int32) - x) - y)) (115 + 2) 0)) hx hb hr (fun tE ht hW => ⟨⟨((u2 (u2 (u2 P (115 + 0) 0 x) (115 + 1) 0 y) (115 + 2) 0 (((100 : Int32) - x) - y)) (115 + 2) 0), (), rfl, u2_same _ _ _ _, x_at ht (hP)⟩, hS.F ht⟩) hS.2.2 dX6_shares_60

set_option maxRecDepth 100000 in
set_option maxHeartbeats 4000000 in
/-- lift -/
theorem c_X6_lift (l : Launch) (D : va_G) (cy : Nat → ClassId) (lo n : Nat) (w0 : Nat → va_E) (o : Nat) (G T P : Mem) (ho1 : lo ≤ o) (ho2 : o + 118 ≤ lo + n) (i : Nat) (hi : i < 3) (x : Int32) (hx1 : 1 ≤ x) (hx2 : x ≤ 999) : Met l yX6_lift wsX6_lift ({ frames := 2, cells := 0, slots := 0, locals := 46 }) (PcW D cy lo n (gw cy (gw cy (hw cy w0 o P) (o + 50) T) (o + 1) G) [.ref o, .int (nI i), .int x]) (QiW D lo n (gw cy (gw cy (hw cy w0 o (u2 (u2 P (115 + i) 2 ((P (115 + i) 2) + (jmin x (m_may2 G P i)))) (115 + i) 3 (((u2 P (115 + i) 2 ((P (115 + i) 2) + (jmin x (m_may2 G P i)))) (115 + i) 3) + ((jmin x (m_may2 G P i)) * ((u2 P (115 + i) 2 ((P (115 + i) 2) + (jmin x (m_may2 G P i)))) 0 7))))) (o + 50) T) (o + 1) (u2 G (0) 6 ((G 0 6) - (jmin x (m_may2 G P i))))) (jmin x (m_may2 G P i))) 0 0 (fun q : Nat => lo ≤ q) := by
  refine Met.ofW (cc := cX6_lift) (maxL := 4) (ret := (some .int)) (by decide) rfl ?_
  intro p e s m args below meth c s₁ B hml hv
  obtain ⟨rfl, hP, hK, hS⟩ := x_entry hv
  have hx := B.exec
  have hb := B.bytes
  have hr := B.returns
  have hts := atoms_spec (ws := wsX6_lift) B.pre
  have hown : s.vm.findClass RX6 = some m.cls := findClass_of_methodNamed B.named
  have hlocks := B.notSynchronized
  have iX2 : ∀ w ∈ u_ws RX2 TX2 12, w ∈ wsX6_lift := by decide +kernel
  have iX3 : ∀ w ∈ u_ws RX3 TX3 4, w ∈ wsX6_lift := by decide +kernel
  have iX6 : ∀ w ∈ u_ws RX6 TX6 11, w ∈ wsX6_lift := by decide +kernel
  have hl := lv_entry ([.ref o, .int (nI i), .int x]) (n := 4) (Nat.le_of_ble_eq_true rfl)
  rw [lg_entry_eq]
  generalize (lg_sl ([.ref o, .int (nI i), .int x]) ++ List.replicate (4 - (lg_sl ([.ref o, .int (nI i), .int x])).length) Slot.unset).toArray = ls at hl ⊢
  have hl : lv_has ls 4 [(0, .ref o), (1, .int (nI i)), (2, .int x)] := hl
  refine lv_iload_n hx hb dX6_lift_0 rfl (lv_at hl 1 rfl) ?_
  refine lv_iconst (v := 3) hx hb dX6_lift_1 (by decide) ?_
  refine x_callv (va_runS (As := [.int (nI i), .int (3 : Int32)]) (rest := []) ⟨hx, hb, hml, hown, hts⟩ (c_X6_needIndex l D cy lo n (gw cy (gw cy (hw cy w0 o P) (o + 50) T) (o + 1) G) i 3 (by omega) (by omega) (nI i) (3 : Int32) rfl rfl) (va_cwS 2 hts gX6_lift_X6_needIndex rfl rfl rfl (by decide +kernel) ⟨Nat.le_of_ble_eq_true rfl, Nat.le_of_ble_eq_true rfl⟩) (preS hP hK) rfl rfl hl.1 rfl (lv_room (Nat.le_of_ble_eq_true rfl)) dX6_lift_2 ⟨Nat.le_of_ble_eq_true rfl, Nat.le_of_ble_eq_true rfl⟩) hS (fun H locs hP hS => ?_)
  refine lv_iload_n hx hb dX6_lift_5 rfl (lv_at hl 2 rfl) ?_
  refine lv_iconst (v := 1) hx hb dX6_lift_6 (by decide) ?_
  refine lv_sipush (v := 999) hx hb dX6_lift_7 (by decide) ?_
  refine x_callv (va_runS (As := [.int x, .int (1 : Int32), .int (999 : Int32)]) (rest := []) ⟨hx, hb, hml, hown, hts⟩ (c_X6_needWithin l D cy lo n (gw cy (gw cy (hw cy w0 o P) (o + 50) T) (o + 1) G) x (1 : Int32) (999 : Int32) hx1 hx2) (va_cwS 3 hts gX6_lift_X6_needWithin rfl rfl rfl (by decide +kernel) ⟨Nat.le_of_ble_eq_true rfl, Nat.le_of_ble_eq_true rfl⟩) (preS hP hK) rfl rfl hl.1 rfl (lv_room (Nat.le_of_ble_eq_true rfl)) dX6_lift_10 ⟨Nat.le_of_ble_eq_true rfl, Nat.le_of_ble_eq_true rfl⟩) hS (fun H locs hP hS => ?_)
  refine lv_iload_n hx hb dX6_lift_13 rfl (lv_at hl 2 rfl) ?_
  refine lv_aload_n hx hb dX6_lift_14 rfl (lv_at hl 0 rfl) ?_
  refine lv_iload_n hx hb dX6_lift_15 rfl (lv_at hl 1 rfl) ?_
  refine x_calli (va_runV (As := [.int (nI i)]) (rest := [.int x]) ⟨hx, hb, hml, hown, hts⟩ (c_X6_mayLift l D cy lo n w0 o G T P (by omega) (by omega) i (by omega)) (cwV 1 hts gX6_lift_X6_mayLift rfl rfl rfl (by decide +kernel) ⟨Nat.le_of_ble_eq_true rfl, Nat.le_of_ble_eq_true rfl⟩) (preV hP hK (x_recv (ci := 6) (q := (RX6, TX6, 11)) hK.1 hP (by omega) (by omega) rfl (((gw_out (by omega)).trans ((gw_out (by omega)).trans (hw_0)))))) rfl rfl hl.1 rfl (lv_room (Nat.le_of_ble_eq_true rfl)) dX6_lift_16 ⟨Nat.le_of_ble_eq_true rfl, Nat.le_of_ble_eq_true rfl⟩) hS (fun H locs hP hS => ?_)
  refine va_mmin (own := RX6) hx hb (hml.trans hl.1.symm) hown (hts (.methodLink RX6 167 Lib.Math.min.name) (by decide +kernel)) (hts (.static Lib.Math.min.name) (by decide +kernel)) (hts (.initialized "java/lang/Math") (by decide +kernel)) (hts (.code Lib.Math.min.name Lib.Math.min.code 2 (some .int)) (by decide +kernel)) (Nat.le_of_ble_eq_true rfl) (Nat.le_of_ble_eq_true rfl) (Nat.zero_le _) (Nat.zero_le _) dX6_lift_19 ?_
  refine lv_istore_n (lv' := [(3, .int (jmin x (m_may2 G P i))), (0, .ref o), (1, .int (nI i)), (2, .int x)]) hx hb dX6_lift_22 rfl hl (by decide) rfl (fun ls hl => ?_)
  refine lv_aload_n hx hb dX6_lift_23 rfl (lv_at hl 1 rfl) ?_
  refine x_get (ref := RX6) (C := RX6) (T := TX6) (N := 11) (ci := 6) (v := .ref (o + 1)) hx hb hts iX6 hown hK.1 hP (by omega) (by omega) (((gw_out (by omega)).trans ((gw_out (by omega)).trans (hw_0)))) rfl 0 (by decide) (hts (.fieldLink RX6 10 "PoreField" "ground" "LPoreField$Ground;") (by decide +kernel)) (fun _ h9 => h9) rfl dX6_lift_24 ?_
  refine lv_dup hx hb dX6_lift_27 rfl ?_
  refine x_get (ref := RX2) (C := RX2) (T := TX2) (N := 12) (ci := 2) (v := .int (G 0 6)) hx hb hts iX2 hown hK.1 hP (by omega) (by omega) (gw_0) rfl 6 (by decide) (hts (.fieldLink RX6 134 "PoreField$Ground" "tankHas" "I") (by decide +kernel)) (fun _ h9 => h9) rfl dX6_lift_28 ?_
  refine lv_iload_n hx hb dX6_lift_31 rfl (lv_at hl 0 rfl) ?_
  refine lv_isub hx hb dX6_lift_32 ?_
  refine x_put (ty := .int) (ref := RX2) (C := RX2) (T := TX2) (N := 12) (ci := 2) (v := .int ((G 0 6) - (jmin x (m_may2 G P i)))) hx hb hts iX2 tyX2 tyX2_ok nmX2 hown hK.1 hP hS (by omega) (by omega) (gw_0) rfl 6 (by decide) (hts (.fieldLink RX6 134 "PoreField$Ground" "tankHas" "I") (by decide +kernel)) (fun _ h9 => h9) rfl (by decide +kernel) rfl rfl (Nat.le_of_ble_eq_true rfl) dX6_lift_33 (fun H locs hP hS => ?_)
  have hP := gp0 (j := 6) (v := ((G 0 6) - (jmin x (m_may2 G P i)))) hP (rfl)
  refine lv_aload_n hx hb dX6_lift_36 rfl (lv_at hl 1 rfl) ?_
  refine x_get (ref := RX6) (C := RX6) (T := TX6) (N := 11) (ci := 6) (v := .ref (o + 100)) hx hb hts iX6 hown hK.1 hP (by omega) (by omega) (((gw_out (by omega)).trans ((gw_out (by omega)).trans (hw_0)))) rfl 3 (by decide) (hts (.fieldLink RX6 27 "PoreField" "partners" "[LPoreField$Partner;") (by decide +kernel)) (fun _ h9 => h9) rfl dX6_lift_37 ?_
  refine lv_iload_n hx hb dX6_lift_40 rfl (lv_at hl 2 rfl) ?_
  refine x_aald (b := (o + (115 + i))) hx hb hK.1 hP (by omega) (by omega) 4 (((gw_out (by omega)).trans ((gw_out (by omega)).trans (hw_100)))) rfl (cl_of_nI (i := i) rfl (by omega)) rfl (vp_in_of_nI (i := i) rfl (by omega) (by omega)) dX6_lift_41 ?_
  refine lv_dup hx hb dX6_lift_42 rfl ?_
  refine x_get (ref := RX3) (C := RX3) (T := TX3) (N := 4) (ci := 3) (v := .int (P (115 + i) 2)) hx hb hts iX3 hown hK.1 hP (by omega) (by omega) (((gw_out (by omega)).trans ((gw_out (by omega)).trans (hw_par (by omega))))) rfl 2 (by decide) (hts (.fieldLink RX6 173 "PoreField$Partner" "lifted" "I") (by decide +kernel)) (fun _ h9 => h9) rfl dX6_lift_43 ?_
  refine lv_iload_n hx hb dX6_lift_46 rfl (lv_at hl 0 rfl) ?_
  refine lv_iadd hx hb dX6_lift_47 ?_
  refine x_put (ty := .int) (ref := RX3) (C := RX3) (T := TX3) (N := 4) (ci := 3) (v := .int ((P (115 + i) 2) + (jmin x (m_may2 G P i)))) hx hb hts iX3 tyX3 tyX3_ok nmX3 hown hK.1 hP hS (by omega) (by omega) (((gw_out (by omega)).trans ((gw_out (by omega)).trans (hw_par (by omega))))) rfl 2 (by decide) (hts (.fieldLink RX6 173 "PoreField$Partner" "lifted" "I") (by decide +kernel)) (fun _ h9 => h9) rfl (by decide +kernel) rfl rfl (Nat.le_of_ble_eq_true rfl) dX6_lift_48 (fun H locs hP hS => ?_)
  have hP := hp2 (k := 115 + i) (j := 2) (v := ((P (115 + i) 2) + (jmin x (m_may2 G P i)))) hP (by omega) (by omega) (by omega) (by rw [hEr_par (by omega)]; rfl)
  refine lv_aload_n hx hb dX6_lift_51 rfl (lv_at hl 1 rfl) ?_
  refine x_get (ref := RX6) (C := RX6) (T := TX6) (N := 11) (ci := 6) (v := .ref (o + 100)) hx hb hts iX6 hown hK.1 hP (by omega) (by omega) (((gw_out (by omega)).trans ((gw_out (by omega)).trans (hw_0)))) rfl 3 (by decide) (hts (.fieldLink RX6 27 "PoreField" "partners" "[LPoreField$Partner;") (by decide +kernel)) (fun _ h9 => h9) rfl dX6_lift_52 ?_
  refine lv_iload_n hx hb dX6_lift_55 rfl (lv_at hl 2 rfl) ?_
  refine x_aald (b := (o + (115 + i))) hx hb hK.1 hP (by omega) (by omega) 4 (((gw_out (by omega)).trans ((gw_out (by omega)).trans (hw_100)))) rfl (cl_of_nI (i := i) rfl (by omega)) rfl (vp_in_of_nI (i := i) rfl (by omega) (by omega)) dX6_lift_56 ?_
  refine lv_dup hx hb dX6_lift_57 rfl ?_
  refine x_get (ref := RX3) (C := RX3) (T := TX3) (N := 4) (ci := 3) (v := .int ((u2 P (115 + i) 2 ((P (115 + i) 2) + (jmin x (m_may2 G P i)))) (115 + i) 3)) hx hb hts iX3 hown hK.1 hP (by omega) (by omega) (((gw_out (by omega)).trans ((gw_out (by omega)).trans (hw_par (by omega))))) rfl 3 (by decide) (hts (.fieldLink RX6 176 "PoreField$Partner" "money" "I") (by decide +kernel)) (fun _ h9 => h9) rfl dX6_lift_58 ?_
  refine lv_iload_n hx hb dX6_lift_61 rfl (lv_at hl 0 rfl) ?_
  refine lv_aload_n hx hb dX6_lift_62 rfl (lv_at hl 1 rfl) ?_
  refine x_get (ref := RX6) (C := RX6) (T := TX6) (N := 11) (ci := 6) (v := .int ((u2 P (115 + i) 2 ((P (115 + i) 2) + (jmin x (m_may2 G P i)))) 0 7)) hx hb hts iX6 hown hK.1 hP (by omega) (by omega) (((gw_out (by omega)).trans ((gw_out (by omega)).trans (hw_0)))) rfl 7 (by decide) (hts (.fieldLink RX6 42 "PoreField" "price" "I") (by decide +kernel)) (fun _ h9 => h9) rfl dX6_lift_63 ?_
  refine lv_imul hx hb dX6_lift_66 ?_
  refine lv_iadd hx hb dX6_lift_67 ?_
  refine x_put (ty := .int) (ref := RX3) (C := RX3) (T := TX3) (N := 4) (ci := 3) (v := .int (((u2 P (115 + i) 2 ((P (115 + i) 2) + (jmin x (m_may2 G P i)))) (115 + i) 3) + ((jmin x (m_may2 G P i)) * ((u2 P (115 + i) 2 ((P (115 + i) 2) + (jmin x (m_may2 G P i)))) 0 7)))) hx hb hts iX3 tyX3 tyX3_ok nmX3 hown hK.1 hP hS (by omega) (by omega) (((gw_out (by omega)).trans ((gw_out (by omega)).trans (hw_par (by omega))))) rfl 3 (by decide) (hts (.fieldLink RX6 176 "PoreField$Partner" "money" "I") (by decide +kernel)) (fun _ h9 => h9) rfl (by decide +kernel) rfl rfl (Nat.le_of_ble_eq_true rfl) dX6_lift_68 (fun H locs hP hS => ?_)
  have hP := hp2 (k := 115 + i) (j := 3) (v := (((u2 P (115 + i) 2 ((P (115 + i) 2) + (jmin x (m_may2 G P i)))) (115 + i) 3) + ((jmin x (m_may2 G P i)) * ((u2 P (115 + i) 2 ((P (115 + i) 2) + (jmin x (m_may2 G P i)))) 0 7)))) hP (by omega) (by omega) (by omega) (by rw [hEr_par (by omega)]; rfl)
  refine lv_iload_n hx hb dX6_lift_71 rfl (lv_at hl 0 rfl) ?_
  exact W.iret (v := (jmin x (m_may2 G P i))) hx hb hr (fun tE ht hW => ⟨⟨(jmin x (m_may2 G P i)), (), rfl, rfl, x_at ht (hP)⟩, hS.F ht⟩) hS.2.2 dX6_lift_72
