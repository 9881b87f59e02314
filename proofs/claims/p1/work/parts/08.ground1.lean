set_option maxRecDepth 100000 in
set_option maxHeartbeats 4000000 in
/-- Ground.mayComeUp -/
theorem c_X2_mayComeUp (l : Launch) (D : va_G) (cy : Nat → ClassId) (lo n : Nat) (w0 : Nat → va_E) (g : Nat) (M : Mem) (hg1 : lo ≤ g) (hg2 : g + 49 ≤ lo + n) (f : Nat) (hf : f < 3) : Met l yX2_mayComeUp wsX2_mayComeUp ({ frames := 1, cells := 0, slots := 0, locals := 24 }) (PcW D cy lo n (gw cy w0 g M) [.ref g, .int (nI f)]) (QiW D lo n (gw cy w0 g M) (m_may M f)) 0 0 (fun q : Nat => lo ≤ q) := by
  refine Met.ofW (cc := cX2_mayComeUp) (maxL := 3) (ret := (some .int)) (by decide) rfl ?_
  intro p e s m args below meth c s₁ B hml hv
  obtain ⟨rfl, hP, hK, hS⟩ := x_entry hv
  have hx := B.exec
  have hb := B.bytes
  have hr := B.returns
  have hts := atoms_spec (ws := wsX2_mayComeUp) B.pre
  have hown : s.vm.findClass RX2 = some m.cls := findClass_of_methodNamed B.named
  have hlocks := B.notSynchronized
  have iX2 : ∀ w ∈ u_ws RX2 TX2 12, w ∈ wsX2_mayComeUp := by decide +kernel
  have hl := lv_entry ([.ref g, .int (nI f)]) (n := 3) (Nat.le_of_ble_eq_true rfl)
  rw [lg_entry_eq]
  generalize (lg_sl ([.ref g, .int (nI f)]) ++ List.replicate (3 - (lg_sl ([.ref g, .int (nI f)])).length) Slot.unset).toArray = ls at hl ⊢
  have hl : lv_has ls 3 [(0, .ref g), (1, .int (nI f))] := hl
  refine lv_aload_n hx hb dX2_mayComeUp_0 rfl (lv_at hl 0 rfl) ?_
  refine x_get (ref := RX2) (C := RX2) (T := TX2) (N := 12) (ci := 2) (v := .ref (g + 3)) hx hb hts iX2 hown hK.1 hP (by omega) (by omega) (gw_0) rfl 3 (by decide) (hts (.fieldLink RX2 23 "PoreField$Ground" "capacity" "[I") (by decide +kernel)) (fun _ h9 => h9) rfl dX2_mayComeUp_1 ?_
  refine lv_iload_n hx hb dX2_mayComeUp_4 rfl (lv_at hl 1 rfl) ?_
  refine x_iald hx hb hK.1 hP (by omega) (by omega) 0 (gw_row (gRow_3)) rfl (cl_of_nI (i := f) rfl (by omega)) (vp_in_of_nI (i := f) rfl (by omega) (by omega)) dX2_mayComeUp_5 ?_
  refine lv_aload_n hx hb dX2_mayComeUp_6 rfl (lv_at hl 0 rfl) ?_
  refine x_get (ref := RX2) (C := RX2) (T := TX2) (N := 12) (ci := 2) (v := .ref (g + 4)) hx hb hts iX2 hown hK.1 hP (by omega) (by omega) (gw_0) rfl 7 (by decide) (hts (.fieldLink RX2 34 "PoreField$Ground" "cameUp" "[I") (by decide +kernel)) (fun _ h9 => h9) rfl dX2_mayComeUp_7 ?_
  refine lv_iload_n hx hb dX2_mayComeUp_10 rfl (lv_at hl 1 rfl) ?_
  refine x_iald hx hb hK.1 hP (by omega) (by omega) 0 (gw_row (gRow_4)) rfl (cl_of_nI (i := f) rfl (by omega)) (vp_in_of_nI (i := f) rfl (by omega) (by omega)) dX2_mayComeUp_11 ?_
  refine lv_isub hx hb dX2_mayComeUp_12 ?_
  refine lv_istore_n (lv' := [(2, .int ((M (3) f) - (M (4) f))), (0, .ref g), (1, .int (nI f))]) hx hb dX2_mayComeUp_13 rfl hl (by decide) rfl (fun ls hl => ?_)
  refine lv_iload_n hx hb dX2_mayComeUp_14 rfl (lv_at hl 2 rfl) ?_
  refine lv_if_ne (tgt := 32) hx hb dX2_mayComeUp_15 (by decide) (fun c_15 => ?_) (fun c_15 => ?_)
  · refine lv_iload_n hx hb dX2_mayComeUp_32 rfl (lv_at hl 2 rfl) ?_
    refine lv_iconst (v := 2) hx hb dX2_mayComeUp_33 (by decide) ?_
    refine lv_icmp_ne (tgt := 55) hx hb dX2_mayComeUp_34 (by decide) (fun c_34 => ?_) (fun c_34 => ?_)
    · refine lv_iload_n hx hb dX2_mayComeUp_55 rfl (lv_at hl 0 rfl) ?_
      exact W.iret (v := ((M (3) f) - (M (4) f))) hx hb hr (fun tE ht hW => ⟨⟨((M (3) f) - (M (4) f)), (), rfl, (by simp only [m_may, if_neg c_15, if_neg c_34]), x_at ht (hP)⟩, hS.F ht⟩) hS.2.2 dX2_mayComeUp_56
    · refine lv_iload_n hx hb dX2_mayComeUp_37 rfl (lv_at hl 0 rfl) ?_
      refine lv_aload_n hx hb dX2_mayComeUp_38 rfl (lv_at hl 1 rfl) ?_
      refine x_get (ref := RX2) (C := RX2) (T := TX2) (N := 12) (ci := 2) (v := .int (M 0 8)) hx hb hts iX2 hown hK.1 hP (by omega) (by omega) (gw_0) rfl 8 (by decide) (hts (.fieldLink RX2 97 "PoreField$Ground" "gasOutlets" "I") (by decide +kernel)) (fun _ h9 => h9) rfl dX2_mayComeUp_39 ?_
      refine lv_aload_n hx hb dX2_mayComeUp_42 rfl (lv_at hl 1 rfl) ?_
      refine x_get (ref := RX2) (C := RX2) (T := TX2) (N := 12) (ci := 2) (v := .ref (g + 4)) hx hb hts iX2 hown hK.1 hP (by omega) (by omega) (gw_0) rfl 7 (by decide) (hts (.fieldLink RX2 34 "PoreField$Ground" "cameUp" "[I") (by decide +kernel)) (fun _ h9 => h9) rfl dX2_mayComeUp_43 ?_
      refine lv_iconst (v := 2) hx hb dX2_mayComeUp_46 (by decide) ?_
      refine x_iald hx hb hK.1 hP (by omega) (by omega) 0 (gw_row (gRow_4)) rfl (cl_of_nI (i := 2) rfl (by omega)) (vp_in_of_nI (i := 2) rfl (by omega) (by omega)) dX2_mayComeUp_47 ?_
      refine lv_isub hx hb dX2_mayComeUp_48 ?_
      refine va_mmin (own := RX2) hx hb (hml.trans hl.1.symm) hown (hts (.methodLink RX2 125 Lib.Math.min.name) (by decide +kernel)) (hts (.static Lib.Math.min.name) (by decide +kernel)) (hts (.initialized "java/lang/Math") (by decide +kernel)) (hts (.code Lib.Math.min.name Lib.Math.min.code 2 (some .int)) (by decide +kernel)) (Nat.le_of_ble_eq_true rfl) (Nat.le_of_ble_eq_true rfl) (Nat.zero_le _) (Nat.zero_le _) dX2_mayComeUp_49 ?_
      refine lv_goto (tgt := 56) hx hb dX2_mayComeUp_52 (by decide) ?_
      exact W.iret (v := (jmin ((M (3) f) - (M (4) f)) ((M 0 8) - (M (4) 2)))) hx hb hr (fun tE ht hW => ⟨⟨(jmin ((M (3) f) - (M (4) f)) ((M 0 8) - (M (4) 2))), (), rfl, (by simp only [m_may, if_neg c_15, if_pos c_34]), x_at ht (hP)⟩, hS.F ht⟩) hS.2.2 dX2_mayComeUp_56
  · refine lv_iload_n hx hb dX2_mayComeUp_18 rfl (lv_at hl 0 rfl) ?_
    refine lv_aload_n hx hb dX2_mayComeUp_19 rfl (lv_at hl 1 rfl) ?_
    refine x_get (ref := RX2) (C := RX2) (T := TX2) (N := 12) (ci := 2) (v := .int (M 0 5)) hx hb hts iX2 hown hK.1 hP (by omega) (by omega) (gw_0) rfl 5 (by decide) (hts (.fieldLink RX2 31 "PoreField$Ground" "tankSize" "I") (by decide +kernel)) (fun _ h9 => h9) rfl dX2_mayComeUp_20 ?_
    refine lv_aload_n hx hb dX2_mayComeUp_23 rfl (lv_at hl 1 rfl) ?_
    refine x_get (ref := RX2) (C := RX2) (T := TX2) (N := 12) (ci := 2) (v := .int (M 0 6)) hx hb hts iX2 hown hK.1 hP (by omega) (by omega) (gw_0) rfl 6 (by decide) (hts (.fieldLink RX2 55 "PoreField$Ground" "tankHas" "I") (by decide +kernel)) (fun _ h9 => h9) rfl dX2_mayComeUp_24 ?_
    refine lv_isub hx hb dX2_mayComeUp_27 ?_
    refine va_mmin (own := RX2) hx hb (hml.trans hl.1.symm) hown (hts (.methodLink RX2 125 Lib.Math.min.name) (by decide +kernel)) (hts (.static Lib.Math.min.name) (by decide +kernel)) (hts (.initialized "java/lang/Math") (by decide +kernel)) (hts (.code Lib.Math.min.name Lib.Math.min.code 2 (some .int)) (by decide +kernel)) (Nat.le_of_ble_eq_true rfl) (Nat.le_of_ble_eq_true rfl) (Nat.zero_le _) (Nat.zero_le _) dX2_mayComeUp_28 ?_
    exact W.iret (v := (jmin ((M (3) f) - (M (4) f)) ((M 0 5) - (M 0 6)))) hx hb hr (fun tE ht hW => ⟨⟨(jmin ((M (3) f) - (M (4) f)) ((M 0 5) - (M 0 6))), (), rfl, (by simp only [m_may, if_pos c_15]), x_at ht (hP)⟩, hS.F ht⟩) hS.2.2 dX2_mayComeUp_31

set_option maxRecDepth 100000 in
set_option maxHeartbeats 4000000 in
/-- Ground.putIn -/
theorem c_X2_putIn (l : Launch) (D : va_G) (cy : Nat → ClassId) (lo n : Nat) (w0 : Nat → va_E) (g : Nat) (M : Mem) (hg1 : lo ≤ g) (hg2 : g + 49 ≤ lo + n) (nd : Nat) (hG : GI nd M) (w : Nat) (hw : w < 6) (f : Nat) (hf : f < 3) (x : Int32) : Met l yX2_putIn wsX2_putIn ({ frames := 0, cells := 0, slots := 0, locals := 0 }) (PcW D cy lo n (gw cy w0 g M) [.ref g, .ref (g + (37 + 2 * w)), .int (nI f), .int x]) (QvW D lo n (gw cy w0 g (m_putIn M w f x))) 0 0 (fun q : Nat => lo ≤ q) := by
  refine Met.ofW (cc := cX2_putIn) (maxL := 4) (ret := none) (by decide) rfl ?_
  intro p e s m args below meth c s₁ B hml hv
  obtain ⟨rfl, hP, hK, hS⟩ := x_entry hv
  have hx := B.exec
  have hb := B.bytes
  have hr := B.returns
  have hts := atoms_spec (ws := wsX2_putIn) B.pre
  have hown : s.vm.findClass RX2 = some m.cls := findClass_of_methodNamed B.named
  have hlocks := B.notSynchronized
  have iX1 : ∀ w ∈ u_ws RX1 TX1 4, w ∈ wsX2_putIn := by decide +kernel
  have iX2 : ∀ w ∈ u_ws RX2 TX2 12, w ∈ wsX2_putIn := by decide +kernel
  have iX4 : ∀ w ∈ u_ws RX4 TX4 5, w ∈ wsX2_putIn := by decide +kernel
  have hl := lv_entry ([.ref g, .ref (g + (37 + 2 * w)), .int (nI f), .int x]) (n := 4) (Nat.le_of_ble_eq_true rfl)
  rw [lg_entry_eq]
  generalize (lg_sl ([.ref g, .ref (g + (37 + 2 * w)), .int (nI f), .int x]) ++ List.replicate (4 - (lg_sl ([.ref g, .ref (g + (37 + 2 * w)), .int (nI f), .int x])).length) Slot.unset).toArray = ls at hl ⊢
  have hl : lv_has ls 4 [(0, .ref g), (1, .ref (g + (37 + 2 * w))), (2, .int (nI f)), (3, .int x)] := hl
  refine lv_aload_n hx hb dX2_putIn_0 rfl (lv_at hl 0 rfl) ?_
  refine x_get (ref := RX2) (C := RX2) (T := TX2) (N := 12) (ci := 2) (v := .ref (g + 1)) hx hb hts iX2 hown hK.1 hP (by omega) (by omega) (gw_0) rfl 0 (by decide) (hts (.fieldLink RX2 11 "PoreField$Ground" "cells" "[LPoreField$Cell;") (by decide +kernel)) (fun _ h9 => h9) rfl dX2_putIn_1 ?_
  refine lv_aload_n hx hb dX2_putIn_4 rfl (lv_at hl 1 rfl) ?_
  have hcx := hG.cx (w := w) (by omega)
  refine x_get (ref := RX4) (C := RX4) (T := TX4) (N := 5) (ci := 4) (v := .int (M (37 + 2 * w) 1)) hx hb hts iX4 hown hK.1 hP (by omega) (by omega) (gw_well (by omega)) rfl 1 (by decide) (hts (.fieldLink RX2 106 "PoreField$Well" "cell" "I") (by decide +kernel)) (fun _ h9 => h9) rfl dX2_putIn_5 ?_
  refine x_aald (b := (g + (5 + 2 * (cix M w)))) hx hb hK.1 hP (by omega) (by omega) 1 (gw_1) rfl (cl_of_nI (i := (cix M w)) (hG.ce (by omega)) (by omega)) rfl (vp_in_of_nI (i := (cix M w)) (hG.ce (by omega)) (by omega) (by omega)) dX2_putIn_8 ?_
  refine x_get (ref := RX1) (C := RX1) (T := TX1) (N := 4) (ci := 1) (v := .ref (g + (6 + 2 * (cix M w)))) hx hb hts iX1 hown hK.1 hP (by omega) (by omega) (gw_cell (by omega)) rfl 1 (by decide) (hts (.fieldLink RX2 58 "PoreField$Cell" "fluids" "[I") (by decide +kernel)) (fun _ h9 => h9) rfl dX2_putIn_9 ?_
  refine lv_iload_n hx hb dX2_putIn_12 rfl (lv_at hl 2 rfl) ?_
  refine lv_dup2_11 hx hb dX2_putIn_13 rfl rfl ?_
  refine x_iald hx hb hK.1 hP (by omega) (by omega) 0 (gw_row (gRow_fl (by omega))) rfl (cl_of_nI (i := f) rfl (by omega)) (vp_in_of_nI (i := f) rfl (by omega) (by omega)) dX2_putIn_14 ?_
  refine lv_iload_n hx hb dX2_putIn_15 rfl (lv_at hl 3 rfl) ?_
  refine lv_iadd hx hb dX2_putIn_16 ?_
  refine x_iast (v := ((M (6 + 2 * (cix M w)) f) + x)) hx hb hK.1 hP hS (by omega) (by omega) 0 (gw_row (gRow_fl (by omega))) rfl (cl_of_nI (i := f) rfl (by omega)) (vp_in_of_nI (i := f) rfl (by omega) (by omega)) dX2_putIn_17 (fun H locs hP hS => ?_)
  have hP := gpr (k := 6 + 2 * (cix M w)) (j := f) (v := ((M (6 + 2 * (cix M w)) f) + x)) hP (gRow_fl (by omega))
  have hG : GI nd (u2 M (6 + 2 * (cix M w)) f ((M (6 + 2 * (cix M w)) f) + x)) := hG.cg (Cg.rf.u2 (by omega))
  refine lv_aload_n hx hb dX2_putIn_18 rfl (lv_at hl 1 rfl) ?_
  refine x_get (ref := RX4) (C := RX4) (T := TX4) (N := 5) (ci := 4) (v := .ref (g + (38 + 2 * w))) hx hb hts iX4 hown hK.1 hP (by omega) (by omega) (gw_well (by omega)) rfl 4 (by decide) (hts (.fieldLink RX2 128 "PoreField$Well" "gave" "[I") (by decide +kernel)) (fun _ h9 => h9) rfl dX2_putIn_19 ?_
  refine lv_iload_n hx hb dX2_putIn_22 rfl (lv_at hl 2 rfl) ?_
  refine lv_iload_n hx hb dX2_putIn_23 rfl (lv_at hl 3 rfl) ?_
  refine x_iast (v := x) hx hb hK.1 hP hS (by omega) (by omega) 0 (gw_row (gRow_gave (by omega))) rfl (cl_of_nI (i := f) rfl (by omega)) (vp_in_of_nI (i := f) rfl (by omega) (by omega)) dX2_putIn_24 (fun H locs hP hS => ?_)
  have hP := gpr (k := 38 + 2 * w) (j := f) (v := x) hP (gRow_gave (by omega))
  have hG : GI nd (u2 (u2 M (6 + 2 * (cix M w)) f ((M (6 + 2 * (cix M w)) f) + x)) (38 + 2 * w) f x) := hG.cg (Cg.rf.u2 (by omega))
  exact W.vret hx hb hr (fun tE ht hW => ⟨⟨(), rfl, trivial, x_at ht (hP)⟩, hS.F ht⟩) hS.2.2 dX2_putIn_25

set_option maxRecDepth 100000 in
set_option maxHeartbeats 4000000 in
/-- Ground.produce -/
theorem c_X2_produce (l : Launch) (D : va_G) (cy : Nat → ClassId) (lo n : Nat) (w0 : Nat → va_E) (g : Nat) (M : Mem) (hg1 : lo ≤ g) (hg2 : g + 49 ≤ lo + n) (nd : Nat) (hG : GI nd M) (w : Nat) (hw : w < 6)  : Met l yX2_produce wsX2_produce ({ frames := 2, cells := 0, slots := 0, locals := 49 }) (PcW D cy lo n (gw cy w0 g M) [.ref g, .ref (g + (37 + 2 * w))]) (QvW D lo n (gw cy w0 g (m_produce w M))) 0 0 (fun q : Nat => lo ≤ q) := by
  refine Met.ofW (cc := cX2_produce) (maxL := 6) (ret := none) (by decide) rfl ?_
  intro p e s m args below meth c s₁ B hml hv
  obtain ⟨rfl, hP, hK, hS⟩ := x_entry hv
  have hx := B.exec
  have hb := B.bytes
  have hr := B.returns
  have hts := atoms_spec (ws := wsX2_produce) B.pre
  have hown : s.vm.findClass RX2 = some m.cls := findClass_of_methodNamed B.named
  have hlocks := B.notSynchronized
  have iX2 : ∀ w ∈ u_ws RX2 TX2 12, w ∈ wsX2_produce := by decide +kernel
  have iX4 : ∀ w ∈ u_ws RX4 TX4 5, w ∈ wsX2_produce := by decide +kernel
  have hl := lv_entry ([.ref g, .ref (g + (37 + 2 * w))]) (n := 6) (Nat.le_of_ble_eq_true rfl)
  rw [lg_entry_eq]
  generalize (lg_sl ([.ref g, .ref (g + (37 + 2 * w))]) ++ List.replicate (6 - (lg_sl ([.ref g, .ref (g + (37 + 2 * w))])).length) Slot.unset).toArray = ls at hl ⊢
  have hl : lv_has ls 6 [(0, .ref g), (1, .ref (g + (37 + 2 * w)))] := hl
  have hG0 := hG
  refine lv_aload_n hx hb dX2_produce_0 rfl (lv_at hl 0 rfl) ?_
  refine x_get (ref := RX2) (C := RX2) (T := TX2) (N := 12) (ci := 2) (v := .ref (g + 1)) hx hb hts iX2 hown hK.1 hP (by omega) (by omega) (gw_0) rfl 0 (by decide) (hts (.fieldLink RX2 11 "PoreField$Ground" "cells" "[LPoreField$Cell;") (by decide +kernel)) (fun _ h9 => h9) rfl dX2_produce_1 ?_
  refine lv_aload_n hx hb dX2_produce_4 rfl (lv_at hl 1 rfl) ?_
  have hcx := hG.cx (w := w) (by omega)
  refine x_get (ref := RX4) (C := RX4) (T := TX4) (N := 5) (ci := 4) (v := .int (M (37 + 2 * w) 1)) hx hb hts iX4 hown hK.1 hP (by omega) (by omega) (gw_well (by omega)) rfl 1 (by decide) (hts (.fieldLink RX2 106 "PoreField$Well" "cell" "I") (by decide +kernel)) (fun _ h9 => h9) rfl dX2_produce_5 ?_
  refine x_aald (b := (g + (5 + 2 * (cix M w)))) hx hb hK.1 hP (by omega) (by omega) 1 (gw_1) rfl (cl_of_nI (i := (cix M w)) (hG.ce (by omega)) (by omega)) rfl (vp_in_of_nI (i := (cix M w)) (hG.ce (by omega)) (by omega) (by omega)) dX2_produce_8 ?_
  refine lv_astore_n (lv' := [(2, .ref (g + (5 + 2 * (cix M w)))), (0, .ref g), (1, .ref (g + (37 + 2 * w)))]) hx hb dX2_produce_9 rfl hl (by decide) rfl (fun ls hl => ?_)
  refine lv_iconst (v := 0) hx hb dX2_produce_10 (by decide) ?_
  refine lv_aload_n hx hb dX2_produce_11 rfl (lv_at hl 0 rfl) ?_
  refine x_calli (va_runV (As := []) (rest := [.int (0 : Int32)]) ⟨hx, hb, hml, hown, hts⟩ (c_X1_pressure l D cy lo n w0 g M (by omega) (by omega) (cix M w) (by omega) (hG.rm (by omega))) (cwV 0 hts gX2_produce_X1_pressure rfl rfl rfl (by decide +kernel) ⟨Nat.le_of_ble_eq_true rfl, Nat.le_of_ble_eq_true rfl⟩) (preV hP hK (x_recv (ci := 1) (q := (RX1, TX1, 4)) hK.1 hP (by omega) (by omega) rfl (gw_cell (by omega)))) rfl rfl hl.1 rfl (lv_room (Nat.le_of_ble_eq_true rfl)) dX2_produce_12 ⟨Nat.le_of_ble_eq_true rfl, Nat.le_of_ble_eq_true rfl⟩) hS (fun H locs hP hS => ?_)
  refine lv_bipush (v := 50) hx hb dX2_produce_15 (by decide) ?_
  refine lv_isub hx hb dX2_produce_17 ?_
  refine va_mmax (own := RX2) hx hb (hml.trans hl.1.symm) hown (hts (.methodLink RX2 112 Lib.Math.max.name) (by decide +kernel)) (hts (.static Lib.Math.max.name) (by decide +kernel)) (hts (.initialized "java/lang/Math") (by decide +kernel)) (hts (.code Lib.Math.max.name Lib.Math.max.code 2 (some .int)) (by decide +kernel)) (Nat.le_of_ble_eq_true rfl) (Nat.le_of_ble_eq_true rfl) (Nat.zero_le _) (Nat.zero_le _) dX2_produce_18 ?_
  refine lv_istore_n (lv' := [(3, .int (jmax (0 : Int32) ((m_pressure M (cix M w)) - (50 : Int32)))), (2, .ref (g + (5 + 2 * (cix M w)))), (0, .ref g), (1, .ref (g + (37 + 2 * w)))]) hx hb dX2_produce_21 rfl hl (by decide) rfl (fun ls hl => ?_)
  refine lv_aload_n hx hb dX2_produce_22 rfl (lv_at hl 3 rfl) ?_
  refine x_get (ref := RX4) (C := RX4) (T := TX4) (N := 5) (ci := 4) (v := .int (M (37 + 2 * w) 2)) hx hb hts iX4 hown hK.1 hP (by omega) (by omega) (gw_well (by omega)) rfl 2 (by decide) (hts (.fieldLink RX2 103 "PoreField$Well" "choke" "I") (by decide +kernel)) (fun _ h9 => h9) rfl dX2_produce_23 ?_
  refine lv_iload_n hx hb dX2_produce_26 rfl (lv_at hl 0 rfl) ?_
  refine lv_imul hx hb dX2_produce_27 ?_
  refine lv_bipush (v := 100) hx hb dX2_produce_28 (by decide) ?_
  refine lv_idiv hx hb dX2_produce_30 (by decide) ?_
  refine lv_istore (lv' := [(4, .int (((M (37 + 2 * w) 2) * (jmax (0 : Int32) ((m_pressure M (cix M w)) - (50 : Int32)))) / (100 : Int32))), (3, .int (jmax (0 : Int32) ((m_pressure M (cix M w)) - (50 : Int32)))), (2, .ref (g + (5 + 2 * (cix M w)))), (0, .ref g), (1, .ref (g + (37 + 2 * w)))]) hx hb dX2_produce_31 hl (by decide) rfl (fun ls hl => ?_)
  refine lv_iconst (v := 0) hx hb dX2_produce_33 (by decide) ?_
  refine lv_istore (lv' := [(5, .int (0 : Int32)), (4, .int (((M (37 + 2 * w) 2) * (jmax (0 : Int32) ((m_pressure M (cix M w)) - (50 : Int32)))) / (100 : Int32))), (3, .int (jmax (0 : Int32) ((m_pressure M (cix M w)) - (50 : Int32)))), (2, .ref (g + (5 + 2 * (cix M w)))), (0, .ref g), (1, .ref (g + (37 + 2 * w)))]) hx hb dX2_produce_34 hl (by decide) rfl (fun ls hl => ?_)
  have hloop36 : ∀ (f_r f : Nat) (H : Heap) (locs : List Loc) (ls : Array Slot), f + f_r = 3 → lv_has ls 6 [(5, .int (nI f)), (4, .int (fo (m_timesS M (cix M w)) f (m_times0 M w))), (3, .int (jmax 0 (m_pressure M (cix M w) - 50))), (2, .ref (g + (5 + 2 * (cix M w)))), (0, .ref g), (1, .ref (g + (37 + 2 * w)))] → va_P D vwCl (rl lo n (gw cy w0 g M)) H → va_S (fun q : Nat => lo ≤ q) s.heap H locs → W p l e (headSpec wsX2_produce ({ frames := 2, cells := 0, slots := 0, locals := 49 })).room s m (([.ref g, .ref (g + (37 + 2 * w))] : List Value).toArray) below meth c H locs 0 0 (MQ below (QvW D lo n (gw cy w0 g (m_produce w M))) (([.ref g, .ref (g + (37 + 2 * w))] : List Value).toArray) s 0 0 (fun q : Nat => lo ≤ q)) (F0 m 36 ls []) := by
    intro f_r
    induction f_r with
    | zero =>
      intro f H locs ls hk36 hl hP hS
      obtain rfl : f = 3 := by omega
      refine lv_iload hx hb dX2_produce_36 (lv_at hl 0 rfl) ?_
      refine lv_iconst (v := 3) hx hb dX2_produce_38 (by decide) ?_
      refine lv_icmp_ge (tgt := 67) hx hb dX2_produce_39 (by decide) (fun _ => ?_) (fun c => absurd ((br_le (show (3 : Int32) = nI 3 from rfl) (show (nI 3) = nI 3 from rfl) (by omega) (by omega)).mpr (by omega)) c)
      refine lv_aload_n hx hb dX2_produce_67 rfl (lv_at hl 3 rfl) ?_
      refine lv_iload hx hb dX2_produce_68 (lv_at hl 1 rfl) ?_
      refine lv_aload_n hx hb dX2_produce_70 rfl (lv_at hl 5 rfl) ?_
      refine x_get (ref := RX4) (C := RX4) (T := TX4) (N := 5) (ci := 4) (v := .ref (g + (38 + 2 * w))) hx hb hts iX4 hown hK.1 hP (by omega) (by omega) (gw_well (by omega)) rfl 4 (by decide) (hts (.fieldLink RX2 128 "PoreField$Well" "gave" "[I") (by decide +kernel)) (fun _ h9 => h9) rfl dX2_produce_71 ?_
      refine x_callv (va_runV (As := [.int (fo (m_timesS M (cix M w)) 3 (m_times0 M w)), .ref (g + (38 + 2 * w))]) (rest := []) ⟨hx, hb, hml, hown, hts⟩ (c_X1_moveOut l D cy lo n w0 g M (by omega) (by omega) (cix M w) (by omega) (fo (m_timesS M (cix M w)) 3 (m_times0 M w)) (38 + 2 * w) (gRow_gave (by omega))) (cwV 2 hts gX2_produce_X1_moveOut rfl rfl rfl (by decide +kernel) ⟨Nat.le_of_ble_eq_true rfl, Nat.le_of_ble_eq_true rfl⟩) (preV hP hK (x_recv (ci := 1) (q := (RX1, TX1, 4)) hK.1 hP (by omega) (by omega) rfl (gw_cell (by omega)))) rfl rfl hl.1 rfl (lv_room (Nat.le_of_ble_eq_true rfl)) dX2_produce_74 ⟨Nat.le_of_ble_eq_true rfl, Nat.le_of_ble_eq_true rfl⟩) hS (fun H locs hP hS => ?_)
      have hG : GI nd (m_moveOut M (cix M w) (fo (m_timesS M (cix M w)) 3 (m_times0 M w)) (38 + 2 * w)) := hG.cg (cg_moveOut (by omega))
      refine lv_iconst (v := 0) hx hb dX2_produce_77 (by decide) ?_
      refine lv_istore (lv' := [(5, .int (0 : Int32)), (4, .int (fo (m_timesS M (cix M w)) 3 (m_times0 M w))), (3, .int (jmax 0 (m_pressure M (cix M w) - 50))), (2, .ref (g + (5 + 2 * (cix M w)))), (0, .ref g), (1, .ref (g + (37 + 2 * w)))]) hx hb dX2_produce_78 hl (by decide) rfl (fun ls hl => ?_)
      have hloop80 : ∀ (f2_r f2 : Nat) (H : Heap) (locs : List Loc) (ls : Array Slot), f2 + f2_r = 3 → lv_has ls 6 [(5, .int (nI f2)), (0, .ref g), (1, .ref (g + (37 + 2 * w)))] → va_P D vwCl (rl lo n (gw cy w0 g (fo (m_upS w) f2 (m_moveOut M (cix M w) (m_times M w) (38 + 2 * w))))) H → va_S (fun q : Nat => lo ≤ q) s.heap H locs → W p l e (headSpec wsX2_produce ({ frames := 2, cells := 0, slots := 0, locals := 49 })).room s m (([.ref g, .ref (g + (37 + 2 * w))] : List Value).toArray) below meth c H locs 0 0 (MQ below (QvW D lo n (gw cy w0 g (m_produce w M))) (([.ref g, .ref (g + (37 + 2 * w))] : List Value).toArray) s 0 0 (fun q : Nat => lo ≤ q)) (F0 m 80 ls []) := by
        intro f2_r
        induction f2_r with
        | zero =>
          intro f2 H locs ls hk80 hl hP hS
          obtain rfl : f2 = 3 := by omega
          have hG : GI nd (fo (m_upS w) 3 (m_moveOut M (cix M w) (m_times M w) (38 + 2 * w))) := (hG0.cg (cg_moveOut (by omega))).cg (Cg.rf.fo (fun f x => Cg.rf.u2 (by omega)) 3)
          refine lv_iload hx hb dX2_produce_80 (lv_at hl 0 rfl) ?_
          refine lv_iconst (v := 3) hx hb dX2_produce_82 (by decide) ?_
          refine lv_icmp_ge (tgt := 109) hx hb dX2_produce_83 (by decide) (fun _ => ?_) (fun c => absurd ((br_le (show (3 : Int32) = nI 3 from rfl) (show (nI 3) = nI 3 from rfl) (by omega) (by omega)).mpr (by omega)) c)
          refine lv_aload_n hx hb dX2_produce_109 rfl (lv_at hl 1 rfl) ?_
          refine lv_dup hx hb dX2_produce_110 rfl ?_
          refine x_get (ref := RX2) (C := RX2) (T := TX2) (N := 12) (ci := 2) (v := .int ((fo (m_upS w) 3 (m_moveOut M (cix M w) (m_times M w) (38 + 2 * w))) 0 6)) hx hb hts iX2 hown hK.1 hP (by omega) (by omega) (gw_0) rfl 6 (by decide) (hts (.fieldLink RX2 55 "PoreField$Ground" "tankHas" "I") (by decide +kernel)) (fun _ h9 => h9) rfl dX2_produce_111 ?_
          refine lv_aload_n hx hb dX2_produce_114 rfl (lv_at hl 2 rfl) ?_
          refine x_get (ref := RX4) (C := RX4) (T := TX4) (N := 5) (ci := 4) (v := .ref (g + (38 + 2 * w))) hx hb hts iX4 hown hK.1 hP (by omega) (by omega) (gw_well (by omega)) rfl 4 (by decide) (hts (.fieldLink RX2 128 "PoreField$Well" "gave" "[I") (by decide +kernel)) (fun _ h9 => h9) rfl dX2_produce_115 ?_
          refine lv_iconst (v := 0) hx hb dX2_produce_118 (by decide) ?_
          refine x_iald hx hb hK.1 hP (by omega) (by omega) 0 (gw_row (gRow_gave (by omega))) rfl (cl_of_nI (i := 0) rfl (by omega)) (vp_in_of_nI (i := 0) rfl (by omega) (by omega)) dX2_produce_119 ?_
          refine lv_iadd hx hb dX2_produce_120 ?_
          refine x_put (ty := .int) (ref := RX2) (C := RX2) (T := TX2) (N := 12) (ci := 2) (v := .int (((fo (m_upS w) 3 (m_moveOut M (cix M w) (m_times M w) (38 + 2 * w))) 0 6) + ((fo (m_upS w) 3 (m_moveOut M (cix M w) (m_times M w) (38 + 2 * w))) (38 + 2 * w) 0))) hx hb hts iX2 tyX2 tyX2_ok nmX2 hown hK.1 hP hS (by omega) (by omega) (gw_0) rfl 6 (by decide) (hts (.fieldLink RX2 55 "PoreField$Ground" "tankHas" "I") (by decide +kernel)) (fun _ h9 => h9) rfl (by decide +kernel) rfl rfl (Nat.le_of_ble_eq_true rfl) dX2_produce_121 (fun H locs hP hS => ?_)
          have hP := gp0 (j := 6) (v := (((fo (m_upS w) 3 (m_moveOut M (cix M w) (m_times M w) (38 + 2 * w))) 0 6) + ((fo (m_upS w) 3 (m_moveOut M (cix M w) (m_times M w) (38 + 2 * w))) (38 + 2 * w) 0))) hP (rfl)
          have hG : GI nd (u2 (fo (m_upS w) 3 (m_moveOut M (cix M w) (m_times M w) (38 + 2 * w))) (0) 6 (((fo (m_upS w) 3 (m_moveOut M (cix M w) (m_times M w) (38 + 2 * w))) 0 6) + ((fo (m_upS w) 3 (m_moveOut M (cix M w) (m_times M w) (38 + 2 * w))) (38 + 2 * w) 0))) := hG.cg (Cg.rf.u2 (by omega))
          exact W.vret hx hb hr (fun tE ht hW => ⟨⟨(), rfl, trivial, x_at ht (hP)⟩, hS.F ht⟩) hS.2.2 dX2_produce_124
        | succ f2_r ih80 =>
          intro f2 H locs ls hk80 hl hP hS
          have hG : GI nd (fo (m_upS w) f2 (m_moveOut M (cix M w) (m_times M w) (38 + 2 * w))) := (hG0.cg (cg_moveOut (by omega))).cg (Cg.rf.fo (fun f x => Cg.rf.u2 (by omega)) f2)
          refine lv_iload hx hb dX2_produce_80 (lv_at hl 0 rfl) ?_
          refine lv_iconst (v := 3) hx hb dX2_produce_82 (by decide) ?_
          refine lv_icmp_ge (tgt := 109) hx hb dX2_produce_83 (by decide) (fun c => absurd ((br_le (show (3 : Int32) = nI 3 from rfl) (show (nI f2) = nI f2 from rfl) (by omega) (by omega)).mp c) (by omega)) (fun _ => ?_)
          refine lv_aload_n hx hb dX2_produce_86 rfl (lv_at hl 1 rfl) ?_
          refine x_get (ref := RX2) (C := RX2) (T := TX2) (N := 12) (ci := 2) (v := .ref (g + 4)) hx hb hts iX2 hown hK.1 hP (by omega) (by omega) (gw_0) rfl 7 (by decide) (hts (.fieldLink RX2 34 "PoreField$Ground" "cameUp" "[I") (by decide +kernel)) (fun _ h9 => h9) rfl dX2_produce_87 ?_
          refine lv_iload hx hb dX2_produce_90 (lv_at hl 0 rfl) ?_
          refine lv_dup2_11 hx hb dX2_produce_92 rfl rfl ?_
          refine x_iald hx hb hK.1 hP (by omega) (by omega) 0 (gw_row (gRow_4)) rfl (cl_of_nI (i := f2) rfl (by omega)) (vp_in_of_nI (i := f2) rfl (by omega) (by omega)) dX2_produce_93 ?_
          refine lv_aload_n hx hb dX2_produce_94 rfl (lv_at hl 2 rfl) ?_
          refine x_get (ref := RX4) (C := RX4) (T := TX4) (N := 5) (ci := 4) (v := .ref (g + (38 + 2 * w))) hx hb hts iX4 hown hK.1 hP (by omega) (by omega) (gw_well (by omega)) rfl 4 (by decide) (hts (.fieldLink RX2 128 "PoreField$Well" "gave" "[I") (by decide +kernel)) (fun _ h9 => h9) rfl dX2_produce_95 ?_
          refine lv_iload hx hb dX2_produce_98 (lv_at hl 0 rfl) ?_
          refine x_iald hx hb hK.1 hP (by omega) (by omega) 0 (gw_row (gRow_gave (by omega))) rfl (cl_of_nI (i := f2) rfl (by omega)) (vp_in_of_nI (i := f2) rfl (by omega) (by omega)) dX2_produce_100 ?_
          refine lv_iadd hx hb dX2_produce_101 ?_
          refine x_iast (v := (((fo (m_upS w) f2 (m_moveOut M (cix M w) (m_times M w) (38 + 2 * w))) (4) f2) + ((fo (m_upS w) f2 (m_moveOut M (cix M w) (m_times M w) (38 + 2 * w))) (38 + 2 * w) f2))) hx hb hK.1 hP hS (by omega) (by omega) 0 (gw_row (gRow_4)) rfl (cl_of_nI (i := f2) rfl (by omega)) (vp_in_of_nI (i := f2) rfl (by omega) (by omega)) dX2_produce_102 (fun H locs hP hS => ?_)
          have hP := gpr (k := 4) (j := f2) (v := (((fo (m_upS w) f2 (m_moveOut M (cix M w) (m_times M w) (38 + 2 * w))) (4) f2) + ((fo (m_upS w) f2 (m_moveOut M (cix M w) (m_times M w) (38 + 2 * w))) (38 + 2 * w) f2))) hP (gRow_4)
          have hG : GI nd (u2 (fo (m_upS w) f2 (m_moveOut M (cix M w) (m_times M w) (38 + 2 * w))) (4) f2 (((fo (m_upS w) f2 (m_moveOut M (cix M w) (m_times M w) (38 + 2 * w))) (4) f2) + ((fo (m_upS w) f2 (m_moveOut M (cix M w) (m_times M w) (38 + 2 * w))) (38 + 2 * w) f2))) := hG.cg (Cg.rf.u2 (by omega))
          refine lv_iinc (v := (nI (f2 + 1))) (lv' := [(5, .int (nI (f2 + 1))), (0, .ref g), (1, .ref (g + (37 + 2 * w)))]) hx hb dX2_produce_103 hl (k := 0) rfl (nI_1 _) (by decide) rfl (fun ls hl => ?_)
          refine lv_goto (tgt := 80) hx hb dX2_produce_106 (by decide) ?_
          exact ih80 (f2 + 1) _ _ _ (by omega) (lv_sub hl [0, 1, 2] rfl) (hP) hS
      exact hloop80 3 0 _ _ _ (by omega) (lv_sub hl [0, 4, 5] rfl) (hP) hS
    | succ f_r ih36 =>
      intro f H locs ls hk36 hl hP hS
      refine lv_iload hx hb dX2_produce_36 (lv_at hl 0 rfl) ?_
      refine lv_iconst (v := 3) hx hb dX2_produce_38 (by decide) ?_
      refine lv_icmp_ge (tgt := 67) hx hb dX2_produce_39 (by decide) (fun c => absurd ((br_le (show (3 : Int32) = nI 3 from rfl) (show (nI f) = nI f from rfl) (by omega) (by omega)).mp c) (by omega)) (fun _ => ?_)
      refine lv_iload hx hb dX2_produce_42 (lv_at hl 1 rfl) ?_
      refine lv_aload_n hx hb dX2_produce_44 rfl (lv_at hl 3 rfl) ?_
      refine lv_iload hx hb dX2_produce_45 (lv_at hl 0 rfl) ?_
      refine lv_aload_n hx hb dX2_produce_47 rfl (lv_at hl 4 rfl) ?_
      refine lv_iload hx hb dX2_produce_48 (lv_at hl 0 rfl) ?_
      refine x_calli (va_runV (As := [.int (nI f)]) (rest := [.int (nI f), .ref (g + (5 + 2 * (cix M w))), .int (fo (m_timesS M (cix M w)) f (m_times0 M w))]) ⟨hx, hb, hml, hown, hts⟩ (c_X2_mayComeUp l D cy lo n w0 g M (by omega) (by omega) f (by omega)) (cwV 1 hts gX2_produce_X2_mayComeUp rfl rfl rfl (by decide +kernel) ⟨Nat.le_of_ble_eq_true rfl, Nat.le_of_ble_eq_true rfl⟩) (preV hP hK (x_recv (ci := 2) (q := (RX2, TX2, 12)) hK.1 hP (by omega) (by omega) rfl (gw_0))) rfl rfl hl.1 rfl (lv_room (Nat.le_of_ble_eq_true rfl)) dX2_produce_50 ⟨Nat.le_of_ble_eq_true rfl, Nat.le_of_ble_eq_true rfl⟩) hS (fun H locs hP hS => ?_)
      refine x_calli (va_runV (As := [.int (nI f), .int (m_may M f)]) (rest := [.int (fo (m_timesS M (cix M w)) f (m_times0 M w))]) ⟨hx, hb, hml, hown, hts⟩ (c_X1_mostTimes l D cy lo n w0 g M (by omega) (by omega) (cix M w) (by omega) f (by omega) (m_may M f)) (cwV 2 hts gX2_produce_X1_mostTimes rfl rfl rfl (by decide +kernel) ⟨Nat.le_of_ble_eq_true rfl, Nat.le_of_ble_eq_true rfl⟩) (preV hP hK (x_recv (ci := 1) (q := (RX1, TX1, 4)) hK.1 hP (by omega) (by omega) rfl (gw_cell (by omega)))) rfl rfl hl.1 rfl (lv_room (Nat.le_of_ble_eq_true rfl)) dX2_produce_53 ⟨Nat.le_of_ble_eq_true rfl, Nat.le_of_ble_eq_true rfl⟩) hS (fun H locs hP hS => ?_)
      refine va_mmin (own := RX2) hx hb (hml.trans hl.1.symm) hown (hts (.methodLink RX2 125 Lib.Math.min.name) (by decide +kernel)) (hts (.static Lib.Math.min.name) (by decide +kernel)) (hts (.initialized "java/lang/Math") (by decide +kernel)) (hts (.code Lib.Math.min.name Lib.Math.min.code 2 (some .int)) (by decide +kernel)) (Nat.le_of_ble_eq_true rfl) (Nat.le_of_ble_eq_true rfl) (Nat.zero_le _) (Nat.zero_le _) dX2_produce_56 ?_
      refine lv_istore (lv' := [(4, .int (jmin (fo (m_timesS M (cix M w)) f (m_times0 M w)) (m_mostTimes M (cix M w) f (m_may M f)))), (5, .int (nI f)), (3, .int (jmax 0 (m_pressure M (cix M w) - 50))), (2, .ref (g + (5 + 2 * (cix M w)))), (0, .ref g), (1, .ref (g + (37 + 2 * w)))]) hx hb dX2_produce_59 hl (by decide) rfl (fun ls hl => ?_)
      refine lv_iinc (v := (nI (f + 1))) (lv' := [(5, .int (nI (f + 1))), (4, .int (jmin (fo (m_timesS M (cix M w)) f (m_times0 M w)) (m_mostTimes M (cix M w) f (m_may M f)))), (3, .int (jmax 0 (m_pressure M (cix M w) - 50))), (2, .ref (g + (5 + 2 * (cix M w)))), (0, .ref g), (1, .ref (g + (37 + 2 * w)))]) hx hb dX2_produce_61 hl (k := 1) rfl (nI_1 _) (by decide) rfl (fun ls hl => ?_)
      refine lv_goto (tgt := 36) hx hb dX2_produce_64 (by decide) ?_
      exact ih36 (f + 1) _ _ _ (by omega) (lv_sub hl [0, 1, 2, 3, 4, 5] rfl) (hP) hS
  exact hloop36 3 0 _ _ _ (by omega) (lv_sub hl [0, 1, 2, 3, 4, 5] rfl) (hP) hS

set_option maxRecDepth 100000 in
set_option maxHeartbeats 4000000 in
/-- Ground.startMonth -/
theorem c_X2_startMonth (l : Launch) (D : va_G) (cy : Nat → ClassId) (lo n : Nat) (w0 : Nat → va_E) (g : Nat) (M : Mem) (hg1 : lo ≤ g) (hg2 : g + 49 ≤ lo + n) (nd : Nat) (hG : GI nd M)  : Met l yX2_startMonth wsX2_startMonth ({ frames := 1, cells := 0, slots := 0, locals := 21 }) (PcW D cy lo n (gw cy w0 g M) [.ref g]) (QvW D lo n (gw cy w0 g (m_start nd M))) 0 0 (fun q : Nat => lo ≤ q) := by
  refine Met.ofW (cc := cX2_startMonth) (maxL := 2) (ret := none) (by decide) rfl ?_
  intro p e s m args below meth c s₁ B hml hv
  obtain ⟨rfl, hP, hK, hS⟩ := x_entry hv
  have hx := B.exec
  have hb := B.bytes
  have hr := B.returns
  have hts := atoms_spec (ws := wsX2_startMonth) B.pre
  have hown : s.vm.findClass RX2 = some m.cls := findClass_of_methodNamed B.named
  have hlocks := B.notSynchronized
  have iX2 : ∀ w ∈ u_ws RX2 TX2 12, w ∈ wsX2_startMonth := by decide +kernel
  have iX4 : ∀ w ∈ u_ws RX4 TX4 5, w ∈ wsX2_startMonth := by decide +kernel
  have hl := lv_entry ([.ref g]) (n := 2) (Nat.le_of_ble_eq_true rfl)
  rw [lg_entry_eq]
  generalize (lg_sl ([.ref g]) ++ List.replicate (2 - (lg_sl ([.ref g])).length) Slot.unset).toArray = ls at hl ⊢
  have hl : lv_has ls 2 [(0, .ref g)] := hl
  have hG0 := hG
  have hnd := hG.1
  refine lv_iconst (v := 0) hx hb dX2_startMonth_0 (by decide) ?_
  refine lv_istore_n (lv' := [(1, .int (0 : Int32)), (0, .ref g)]) hx hb dX2_startMonth_1 rfl hl (by decide) rfl (fun ls hl => ?_)
  have hloop2 : ∀ (f_r f : Nat) (H : Heap) (locs : List Loc) (ls : Array Slot), f + f_r = 3 → lv_has ls 2 [(1, .int (nI f)), (0, .ref g)] → va_P D vwCl (rl lo n (gw cy w0 g (fo (fun f M => u2 M 4 f 0) f M))) H → va_S (fun q : Nat => lo ≤ q) s.heap H locs → W p l e (headSpec wsX2_startMonth ({ frames := 1, cells := 0, slots := 0, locals := 21 })).room s m (([.ref g] : List Value).toArray) below meth c H locs 0 0 (MQ below (QvW D lo n (gw cy w0 g (m_start nd M))) (([.ref g] : List Value).toArray) s 0 0 (fun q : Nat => lo ≤ q)) (F0 m 2 ls []) := by
    intro f_r
    induction f_r with
    | zero =>
      intro f H locs ls hk2 hl hP hS
      obtain rfl : f = 3 := by omega
      have hG : GI nd (fo (fun f M => u2 M 4 f 0) 3 M) := hG0.cg cg_start0
      refine lv_iload_n hx hb dX2_startMonth_2 rfl (lv_at hl 0 rfl) ?_
      refine lv_iconst (v := 3) hx hb dX2_startMonth_3 (by decide) ?_
      refine lv_icmp_ge (tgt := 20) hx hb dX2_startMonth_4 (by decide) (fun _ => ?_) (fun c => absurd ((br_le (show (3 : Int32) = nI 3 from rfl) (show (nI 3) = nI 3 from rfl) (by omega) (by omega)).mpr (by omega)) c)
      refine lv_aload_n hx hb dX2_startMonth_20 rfl (lv_at hl 1 rfl) ?_
      refine lv_iconst (v := 0) hx hb dX2_startMonth_21 (by decide) ?_
      refine x_put (ty := .int) (ref := RX2) (C := RX2) (T := TX2) (N := 12) (ci := 2) (v := .int (0 : Int32)) hx hb hts iX2 tyX2 tyX2_ok nmX2 hown hK.1 hP hS (by omega) (by omega) (gw_0) rfl 10 (by decide) (hts (.fieldLink RX2 91 "PoreField$Ground" "putBack" "I") (by decide +kernel)) (fun _ h9 => h9) rfl (by decide +kernel) rfl rfl (Nat.le_of_ble_eq_true rfl) dX2_startMonth_22 (fun H locs hP hS => ?_)
      have hP := gp0 (j := 10) (v := (0 : Int32)) hP (rfl)
      have hG : GI nd (u2 (fo (fun f M => u2 M 4 f 0) 3 M) (0) 10 (0 : Int32)) := hG.cg (Cg.rf.u2 (by omega))
      refine lv_aload_n hx hb dX2_startMonth_25 rfl (lv_at hl 1 rfl) ?_
      refine lv_iconst (v := 0) hx hb dX2_startMonth_26 (by decide) ?_
      refine x_put (ty := .int) (ref := RX2) (C := RX2) (T := TX2) (N := 12) (ci := 2) (v := .int (0 : Int32)) hx hb hts iX2 tyX2 tyX2_ok nmX2 hown hK.1 hP hS (by omega) (by omega) (gw_0) rfl 11 (by decide) (hts (.fieldLink RX2 94 "PoreField$Ground" "waterIn" "I") (by decide +kernel)) (fun _ h9 => h9) rfl (by decide +kernel) rfl rfl (Nat.le_of_ble_eq_true rfl) dX2_startMonth_27 (fun H locs hP hS => ?_)
      have hP := gp0 (j := 11) (v := (0 : Int32)) hP (rfl)
      have hG : GI nd (u2 (u2 (fo (fun f M => u2 M 4 f 0) 3 M) (0) 10 (0 : Int32)) (0) 11 (0 : Int32)) := hG.cg (Cg.rf.u2 (by omega))
      refine lv_aload_n hx hb dX2_startMonth_30 rfl (lv_at hl 1 rfl) ?_
      refine lv_aload_n hx hb dX2_startMonth_31 rfl (lv_at hl 1 rfl) ?_
      refine x_get (ref := RX2) (C := RX2) (T := TX2) (N := 12) (ci := 2) (v := .int ((u2 (u2 (fo (fun f M => u2 M 4 f 0) 3 M) (0) 10 (0 : Int32)) (0) 11 (0 : Int32)) 0 4)) hx hb hts iX2 hown hK.1 hP (by omega) (by omega) (gw_0) rfl 4 (by decide) (hts (.fieldLink RX2 27 "PoreField$Ground" "permit" "I") (by decide +kernel)) (fun _ h9 => h9) rfl dX2_startMonth_32 ?_
      refine x_put (ty := .int) (ref := RX2) (C := RX2) (T := TX2) (N := 12) (ci := 2) (v := .int ((u2 (u2 (fo (fun f M => u2 M 4 f 0) 3 M) (0) 10 (0 : Int32)) (0) 11 (0 : Int32)) 0 4)) hx hb hts iX2 tyX2 tyX2_ok nmX2 hown hK.1 hP hS (by omega) (by omega) (gw_0) rfl 8 (by decide) (hts (.fieldLink RX2 97 "PoreField$Ground" "gasOutlets" "I") (by decide +kernel)) (fun _ h9 => h9) rfl (by decide +kernel) rfl rfl (Nat.le_of_ble_eq_true rfl) dX2_startMonth_35 (fun H locs hP hS => ?_)
      have hP := gp0 (j := 8) (v := ((u2 (u2 (fo (fun f M => u2 M 4 f 0) 3 M) (0) 10 (0 : Int32)) (0) 11 (0 : Int32)) 0 4)) hP (rfl)
      have hG : GI nd (u2 (u2 (u2 (fo (fun f M => u2 M 4 f 0) 3 M) (0) 10 (0 : Int32)) (0) 11 (0 : Int32)) (0) 8 ((u2 (u2 (fo (fun f M => u2 M 4 f 0) 3 M) (0) 10 (0 : Int32)) (0) 11 (0 : Int32)) 0 4)) := hG.cg (Cg.rf.u2 (by omega))
      refine lv_iconst (v := 0) hx hb dX2_startMonth_38 (by decide) ?_
      refine lv_istore_n (lv' := [(1, .int (0 : Int32)), (0, .ref g)]) hx hb dX2_startMonth_39 rfl hl (by decide) rfl (fun ls hl => ?_)
      have hloop40 : ∀ (w_r w : Nat) (H : Heap) (locs : List Loc) (ls : Array Slot), w + w_r = nd → lv_has ls 2 [(1, .int (nI w)), (0, .ref g)] → va_P D vwCl (rl lo n (gw cy w0 g (fo m_startS w (m_start1 M)))) H → va_S (fun q : Nat => lo ≤ q) s.heap H locs → W p l e (headSpec wsX2_startMonth ({ frames := 1, cells := 0, slots := 0, locals := 21 })).room s m (([.ref g] : List Value).toArray) below meth c H locs 0 0 (MQ below (QvW D lo n (gw cy w0 g (m_start nd M))) (([.ref g] : List Value).toArray) s 0 0 (fun q : Nat => lo ≤ q)) (F0 m 40 ls []) := by
        intro w_r
        induction w_r with
        | zero =>
          intro w H locs ls hk40 hl hP hS
          have ew : w = nd := by omega
          rw [ew] at hP
          rw [ew] at hl
          have hG : GI nd (fo m_startS nd (m_start1 M)) := (hG0.cg cg_start1).cg (Cg.rf.fo (fun w x => cg_startS) nd)
          refine lv_iload_n hx hb dX2_startMonth_40 rfl (lv_at hl 0 rfl) ?_
          refine lv_aload_n hx hb dX2_startMonth_41 rfl (lv_at hl 1 rfl) ?_
          refine x_get (ref := RX2) (C := RX2) (T := TX2) (N := 12) (ci := 2) (v := .int ((fo m_startS nd (m_start1 M)) 0 2)) hx hb hts iX2 hown hK.1 hP (by omega) (by omega) (gw_0) rfl 2 (by decide) (hts (.fieldLink RX2 46 "PoreField$Ground" "drilled" "I") (by decide +kernel)) (fun _ h9 => h9) rfl dX2_startMonth_42 ?_
          refine lv_icmp_ge (tgt := 96) hx hb dX2_startMonth_45 (by decide) (fun _ => ?_) (fun c => absurd ((br_le (show ((fo m_startS nd (m_start1 M)) 0 2) = nI nd from hG.dr) (show (nI nd) = nI nd from rfl) (by omega) (by omega)).mpr (by omega)) c)
          exact W.vret hx hb hr (fun tE ht hW => ⟨⟨(), rfl, trivial, x_at ht (hP)⟩, hS.F ht⟩) hS.2.2 dX2_startMonth_96
        | succ w_r ih40 =>
          intro w H locs ls hk40 hl hP hS
          have hG : GI nd (fo m_startS w (m_start1 M)) := (hG0.cg cg_start1).cg (Cg.rf.fo (fun w x => cg_startS) w)
          refine lv_iload_n hx hb dX2_startMonth_40 rfl (lv_at hl 0 rfl) ?_
          refine lv_aload_n hx hb dX2_startMonth_41 rfl (lv_at hl 1 rfl) ?_
          refine x_get (ref := RX2) (C := RX2) (T := TX2) (N := 12) (ci := 2) (v := .int ((fo m_startS w (m_start1 M)) 0 2)) hx hb hts iX2 hown hK.1 hP (by omega) (by omega) (gw_0) rfl 2 (by decide) (hts (.fieldLink RX2 46 "PoreField$Ground" "drilled" "I") (by decide +kernel)) (fun _ h9 => h9) rfl dX2_startMonth_42 ?_
          refine lv_icmp_ge (tgt := 96) hx hb dX2_startMonth_45 (by decide) (fun c => absurd ((br_le (show ((fo m_startS w (m_start1 M)) 0 2) = nI nd from hG.dr) (show (nI w) = nI w from rfl) (by omega) (by omega)).mp c) (by omega)) (fun _ => ?_)
          refine lv_aload_n hx hb dX2_startMonth_48 rfl (lv_at hl 1 rfl) ?_
          refine x_get (ref := RX2) (C := RX2) (T := TX2) (N := 12) (ci := 2) (v := .ref (g + 2)) hx hb hts iX2 hown hK.1 hP (by omega) (by omega) (gw_0) rfl 1 (by decide) (hts (.fieldLink RX2 19 "PoreField$Ground" "wells" "[LPoreField$Well;") (by decide +kernel)) (fun _ h9 => h9) rfl dX2_startMonth_49 ?_
          refine lv_iload_n hx hb dX2_startMonth_52 rfl (lv_at hl 0 rfl) ?_
          refine x_aald (b := (g + (37 + 2 * w))) hx hb hK.1 hP (by omega) (by omega) 2 (gw_2) rfl (cl_of_nI (i := w) rfl (by omega)) rfl (vp_in_of_nI (i := w) rfl (by omega) (by omega)) dX2_startMonth_53 ?_
          refine x_callv (va_runV (As := []) (rest := []) ⟨hx, hb, hml, hown, hts⟩ (c_X4_forgetMonth l D cy lo n w0 g (fo m_startS w (m_start1 M)) (by omega) (by omega) w (by omega)) (cwV 0 hts gX2_startMonth_X4_forgetMonth rfl rfl rfl (by decide +kernel) ⟨Nat.le_of_ble_eq_true rfl, Nat.le_of_ble_eq_true rfl⟩) (preV hP hK (x_recv (ci := 4) (q := (RX4, TX4, 5)) hK.1 hP (by omega) (by omega) rfl (gw_well (by omega)))) rfl rfl hl.1 rfl (lv_room (Nat.le_of_ble_eq_true rfl)) dX2_startMonth_54 ⟨Nat.le_of_ble_eq_true rfl, Nat.le_of_ble_eq_true rfl⟩) hS (fun H locs hP hS => ?_)
          have hG : GI nd (m_forget w (fo m_startS w (m_start1 M))) := hG.cg cg_forget
          refine lv_aload_n hx hb dX2_startMonth_57 rfl (lv_at hl 1 rfl) ?_
          refine x_get (ref := RX2) (C := RX2) (T := TX2) (N := 12) (ci := 2) (v := .ref (g + 2)) hx hb hts iX2 hown hK.1 hP (by omega) (by omega) (gw_0) rfl 1 (by decide) (hts (.fieldLink RX2 19 "PoreField$Ground" "wells" "[LPoreField$Well;") (by decide +kernel)) (fun _ h9 => h9) rfl dX2_startMonth_58 ?_
          refine lv_iload_n hx hb dX2_startMonth_61 rfl (lv_at hl 0 rfl) ?_
          refine x_aald (b := (g + (37 + 2 * w))) hx hb hK.1 hP (by omega) (by omega) 2 (gw_2) rfl (cl_of_nI (i := w) rfl (by omega)) rfl (vp_in_of_nI (i := w) rfl (by omega) (by omega)) dX2_startMonth_62 ?_
          refine x_get (ref := RX4) (C := RX4) (T := TX4) (N := 5) (ci := 4) (v := .int ((m_forget w (fo m_startS w (m_start1 M))) (37 + 2 * w) 0)) hx hb hts iX4 hown hK.1 hP (by omega) (by omega) (gw_well (by omega)) rfl 0 (by decide) (hts (.fieldLink RX2 72 "PoreField$Well" "kind" "I") (by decide +kernel)) (fun _ h9 => h9) rfl dX2_startMonth_63 ?_
          refine lv_iconst (v := 2) hx hb dX2_startMonth_66 (by decide) ?_
          refine lv_icmp_ne (tgt := 90) hx hb dX2_startMonth_67 (by decide) (fun c_67 => ?_) (fun c_67 => ?_)
          · refine lv_iinc (v := (nI (w + 1))) (lv' := [(1, .int (nI (w + 1))), (0, .ref g)]) hx hb dX2_startMonth_90 hl (k := 0) rfl (nI_1 _) (by decide) rfl (fun ls hl => ?_)
            refine lv_goto (tgt := 40) hx hb dX2_startMonth_93 (by decide) ?_
            exact ih40 (w + 1) _ _ _ (by omega) (lv_sub hl [0, 1] rfl) ((by rw [show fo m_startS (w + 1) (m_start1 M) = m_forget w (fo m_startS w (m_start1 M)) from (by simp only [fo, m_startS, if_neg c_67])]; exact hP)) hS
          · refine lv_aload_n hx hb dX2_startMonth_70 rfl (lv_at hl 1 rfl) ?_
            refine lv_dup hx hb dX2_startMonth_71 rfl ?_
            refine x_get (ref := RX2) (C := RX2) (T := TX2) (N := 12) (ci := 2) (v := .int ((m_forget w (fo m_startS w (m_start1 M))) 0 8)) hx hb hts iX2 hown hK.1 hP (by omega) (by omega) (gw_0) rfl 8 (by decide) (hts (.fieldLink RX2 97 "PoreField$Ground" "gasOutlets" "I") (by decide +kernel)) (fun _ h9 => h9) rfl dX2_startMonth_72 ?_
            refine lv_iconst (v := 2) hx hb dX2_startMonth_75 (by decide) ?_
            refine lv_aload_n hx hb dX2_startMonth_76 rfl (lv_at hl 1 rfl) ?_
            refine x_get (ref := RX2) (C := RX2) (T := TX2) (N := 12) (ci := 2) (v := .ref (g + 2)) hx hb hts iX2 hown hK.1 hP (by omega) (by omega) (gw_0) rfl 1 (by decide) (hts (.fieldLink RX2 19 "PoreField$Ground" "wells" "[LPoreField$Well;") (by decide +kernel)) (fun _ h9 => h9) rfl dX2_startMonth_77 ?_
            refine lv_iload_n hx hb dX2_startMonth_80 rfl (lv_at hl 0 rfl) ?_
            refine x_aald (b := (g + (37 + 2 * w))) hx hb hK.1 hP (by omega) (by omega) 2 (gw_2) rfl (cl_of_nI (i := w) rfl (by omega)) rfl (vp_in_of_nI (i := w) rfl (by omega) (by omega)) dX2_startMonth_81 ?_
            refine x_get (ref := RX4) (C := RX4) (T := TX4) (N := 5) (ci := 4) (v := .int ((m_forget w (fo m_startS w (m_start1 M))) (37 + 2 * w) 2)) hx hb hts iX4 hown hK.1 hP (by omega) (by omega) (gw_well (by omega)) rfl 2 (by decide) (hts (.fieldLink RX2 103 "PoreField$Well" "choke" "I") (by decide +kernel)) (fun _ h9 => h9) rfl dX2_startMonth_82 ?_
            refine lv_imul hx hb dX2_startMonth_85 ?_
            refine lv_iadd hx hb dX2_startMonth_86 ?_
            refine x_put (ty := .int) (ref := RX2) (C := RX2) (T := TX2) (N := 12) (ci := 2) (v := .int (((m_forget w (fo m_startS w (m_start1 M))) 0 8) + ((2 : Int32) * ((m_forget w (fo m_startS w (m_start1 M))) (37 + 2 * w) 2)))) hx hb hts iX2 tyX2 tyX2_ok nmX2 hown hK.1 hP hS (by omega) (by omega) (gw_0) rfl 8 (by decide) (hts (.fieldLink RX2 97 "PoreField$Ground" "gasOutlets" "I") (by decide +kernel)) (fun _ h9 => h9) rfl (by decide +kernel) rfl rfl (Nat.le_of_ble_eq_true rfl) dX2_startMonth_87 (fun H locs hP hS => ?_)
            have hP := gp0 (j := 8) (v := (((m_forget w (fo m_startS w (m_start1 M))) 0 8) + ((2 : Int32) * ((m_forget w (fo m_startS w (m_start1 M))) (37 + 2 * w) 2)))) hP (rfl)
            have hG : GI nd (u2 (m_forget w (fo m_startS w (m_start1 M))) (0) 8 (((m_forget w (fo m_startS w (m_start1 M))) 0 8) + ((2 : Int32) * ((m_forget w (fo m_startS w (m_start1 M))) (37 + 2 * w) 2)))) := hG.cg (Cg.rf.u2 (by omega))
            refine lv_iinc (v := (nI (w + 1))) (lv' := [(1, .int (nI (w + 1))), (0, .ref g)]) hx hb dX2_startMonth_90 hl (k := 0) rfl (nI_1 _) (by decide) rfl (fun ls hl => ?_)
            refine lv_goto (tgt := 40) hx hb dX2_startMonth_93 (by decide) ?_
            exact ih40 (w + 1) _ _ _ (by omega) (lv_sub hl [0, 1] rfl) ((by rw [show fo m_startS (w + 1) (m_start1 M) = u2 (m_forget w (fo m_startS w (m_start1 M))) (0) 8 (((m_forget w (fo m_startS w (m_start1 M))) 0 8) + ((2 : Int32) * ((m_forget w (fo m_startS w (m_start1 M))) (37 + 2 * w) 2))) from (by simp only [fo, m_startS, if_pos c_67])]; exact hP)) hS
      exact hloop40 nd 0 _ _ _ (by omega) (lv_sub hl [0, 1] rfl) (hP) hS
    | succ f_r ih2 =>
      intro f H locs ls hk2 hl hP hS
      have hG : GI nd (fo (fun f M => u2 M 4 f 0) f M) := hG0.cg cg_start0
      refine lv_iload_n hx hb dX2_startMonth_2 rfl (lv_at hl 0 rfl) ?_
      refine lv_iconst (v := 3) hx hb dX2_startMonth_3 (by decide) ?_
      refine lv_icmp_ge (tgt := 20) hx hb dX2_startMonth_4 (by decide) (fun c => absurd ((br_le (show (3 : Int32) = nI 3 from rfl) (show (nI f) = nI f from rfl) (by omega) (by omega)).mp c) (by omega)) (fun _ => ?_)
      refine lv_aload_n hx hb dX2_startMonth_7 rfl (lv_at hl 1 rfl) ?_
      refine x_get (ref := RX2) (C := RX2) (T := TX2) (N := 12) (ci := 2) (v := .ref (g + 4)) hx hb hts iX2 hown hK.1 hP (by omega) (by omega) (gw_0) rfl 7 (by decide) (hts (.fieldLink RX2 34 "PoreField$Ground" "cameUp" "[I") (by decide +kernel)) (fun _ h9 => h9) rfl dX2_startMonth_8 ?_
      refine lv_iload_n hx hb dX2_startMonth_11 rfl (lv_at hl 0 rfl) ?_
      refine lv_iconst (v := 0) hx hb dX2_startMonth_12 (by decide) ?_
      refine x_iast (v := (0 : Int32)) hx hb hK.1 hP hS (by omega) (by omega) 0 (gw_row (gRow_4)) rfl (cl_of_nI (i := f) rfl (by omega)) (vp_in_of_nI (i := f) rfl (by omega) (by omega)) dX2_startMonth_13 (fun H locs hP hS => ?_)
      have hP := gpr (k := 4) (j := f) (v := (0 : Int32)) hP (gRow_4)
      have hG : GI nd (u2 (fo (fun f M => u2 M 4 f 0) f M) (4) f (0 : Int32)) := hG.cg (Cg.rf.u2 (by omega))
      refine lv_iinc (v := (nI (f + 1))) (lv' := [(1, .int (nI (f + 1))), (0, .ref g)]) hx hb dX2_startMonth_14 hl (k := 0) rfl (nI_1 _) (by decide) rfl (fun ls hl => ?_)
      refine lv_goto (tgt := 2) hx hb dX2_startMonth_17 (by decide) ?_
      exact ih2 (f + 1) _ _ _ (by omega) (lv_sub hl [0, 1] rfl) (hP) hS
  exact hloop2 3 0 _ _ _ (by omega) (lv_sub hl [0, 1] rfl) (hP) hS

set_option maxRecDepth 100000 in
set_option maxHeartbeats 4000000 in
/-- Ground.putGasBack -/
theorem c_X2_putGasBack (l : Launch) (D : va_G) (cy : Nat → ClassId) (lo n : Nat) (w0 : Nat → va_E) (g : Nat) (M : Mem) (hg1 : lo ≤ g) (hg2 : g + 49 ≤ lo + n) (nd : Nat) (hG : GI nd M)  : Met l yX2_putGasBack wsX2_putGasBack ({ frames := 1, cells := 0, slots := 0, locals := 24 }) (PcW D cy lo n (gw cy w0 g M) [.ref g]) (QvW D lo n (gw cy w0 g (m_gas nd M))) 0 0 (fun q : Nat => lo ≤ q) := by
  refine Met.ofW (cc := cX2_putGasBack) (maxL := 4) (ret := none) (by decide) rfl ?_
  intro p e s m args below meth c s₁ B hml hv
  obtain ⟨rfl, hP, hK, hS⟩ := x_entry hv
  have hx := B.exec
  have hb := B.bytes
  have hr := B.returns
  have hts := atoms_spec (ws := wsX2_putGasBack) B.pre
  have hown : s.vm.findClass RX2 = some m.cls := findClass_of_methodNamed B.named
  have hlocks := B.notSynchronized
  have iX2 : ∀ w ∈ u_ws RX2 TX2 12, w ∈ wsX2_putGasBack := by decide +kernel
  have iX4 : ∀ w ∈ u_ws RX4 TX4 5, w ∈ wsX2_putGasBack := by decide +kernel
  have hl := lv_entry ([.ref g]) (n := 4) (Nat.le_of_ble_eq_true rfl)
  rw [lg_entry_eq]
  generalize (lg_sl ([.ref g]) ++ List.replicate (4 - (lg_sl ([.ref g])).length) Slot.unset).toArray = ls at hl ⊢
  have hl : lv_has ls 4 [(0, .ref g)] := hl
  have hG0 := hG
  have hnd := hG.1
  refine lv_aload_n hx hb dX2_putGasBack_0 rfl (lv_at hl 0 rfl) ?_
  refine x_get (ref := RX2) (C := RX2) (T := TX2) (N := 12) (ci := 2) (v := .ref (g + 4)) hx hb hts iX2 hown hK.1 hP (by omega) (by omega) (gw_0) rfl 7 (by decide) (hts (.fieldLink RX2 34 "PoreField$Ground" "cameUp" "[I") (by decide +kernel)) (fun _ h9 => h9) rfl dX2_putGasBack_1 ?_
  refine lv_iconst (v := 2) hx hb dX2_putGasBack_4 (by decide) ?_
  refine x_iald hx hb hK.1 hP (by omega) (by omega) 0 (gw_row (gRow_4)) rfl (cl_of_nI (i := 2) rfl (by omega)) (vp_in_of_nI (i := 2) rfl (by omega) (by omega)) dX2_putGasBack_5 ?_
  refine lv_istore_n (lv' := [(1, .int (M (4) 2)), (0, .ref g)]) hx hb dX2_putGasBack_6 rfl hl (by decide) rfl (fun ls hl => ?_)
  refine lv_iconst (v := 0) hx hb dX2_putGasBack_7 (by decide) ?_
  refine lv_istore_n (lv' := [(2, .int (0 : Int32)), (1, .int (M (4) 2)), (0, .ref g)]) hx hb dX2_putGasBack_8 rfl hl (by decide) rfl (fun ls hl => ?_)
  have hloop9 : ∀ (w_r w : Nat) (H : Heap) (locs : List Loc) (ls : Array Slot), w + w_r = nd → lv_has ls 4 [(2, .int (nI w)), (1, .int ((fo m_gasS w (M 4 2, M)).1)), (0, .ref g)] → va_P D vwCl (rl lo n (gw cy w0 g ((fo m_gasS w (M 4 2, M)).2))) H → va_S (fun q : Nat => lo ≤ q) s.heap H locs → W p l e (headSpec wsX2_putGasBack ({ frames := 1, cells := 0, slots := 0, locals := 24 })).room s m (([.ref g] : List Value).toArray) below meth c H locs 0 0 (MQ below (QvW D lo n (gw cy w0 g (m_gas nd M))) (([.ref g] : List Value).toArray) s 0 0 (fun q : Nat => lo ≤ q)) (F0 m 9 ls []) := by
    intro w_r
    induction w_r with
    | zero =>
      intro w H locs ls hk9 hl hP hS
      have ew : w = nd := by omega
      rw [ew] at hP
      rw [ew] at hl
      have hG : GI nd (fo m_gasS nd (M 4 2, M)).2 := hG0.cg cg_gas1
      refine lv_iload_n hx hb dX2_putGasBack_9 rfl (lv_at hl 0 rfl) ?_
      refine lv_aload_n hx hb dX2_putGasBack_10 rfl (lv_at hl 2 rfl) ?_
      refine x_get (ref := RX2) (C := RX2) (T := TX2) (N := 12) (ci := 2) (v := .int (((fo m_gasS nd (M 4 2, M)).2) 0 2)) hx hb hts iX2 hown hK.1 hP (by omega) (by omega) (gw_0) rfl 2 (by decide) (hts (.fieldLink RX2 46 "PoreField$Ground" "drilled" "I") (by decide +kernel)) (fun _ h9 => h9) rfl dX2_putGasBack_11 ?_
      refine lv_icmp_ge (tgt := 78) hx hb dX2_putGasBack_14 (by decide) (fun _ => ?_) (fun c => absurd ((br_le (show (((fo m_gasS nd (M 4 2, M)).2) 0 2) = nI nd from hG.dr) (show (nI nd) = nI nd from rfl) (by omega) (by omega)).mpr (by omega)) c)
      refine lv_aload_n hx hb dX2_putGasBack_78 rfl (lv_at hl 2 rfl) ?_
      refine lv_iload_n hx hb dX2_putGasBack_79 rfl (lv_at hl 1 rfl) ?_
      refine x_put (ty := .int) (ref := RX2) (C := RX2) (T := TX2) (N := 12) (ci := 2) (v := .int ((fo m_gasS nd (M 4 2, M)).1)) hx hb hts iX2 tyX2 tyX2_ok nmX2 hown hK.1 hP hS (by omega) (by omega) (gw_0) rfl 9 (by decide) (hts (.fieldLink RX2 139 "PoreField$Ground" "flared" "I") (by decide +kernel)) (fun _ h9 => h9) rfl (by decide +kernel) rfl rfl (Nat.le_of_ble_eq_true rfl) dX2_putGasBack_80 (fun H locs hP hS => ?_)
      have hP := gp0 (j := 9) (v := ((fo m_gasS nd (M 4 2, M)).1)) hP (rfl)
      have hG : GI nd (u2 ((fo m_gasS nd (M 4 2, M)).2) (0) 9 ((fo m_gasS nd (M 4 2, M)).1)) := hG.cg (Cg.rf.u2 (by omega))
      exact W.vret hx hb hr (fun tE ht hW => ⟨⟨(), rfl, trivial, x_at ht (hP)⟩, hS.F ht⟩) hS.2.2 dX2_putGasBack_83
    | succ w_r ih9 =>
      intro w H locs ls hk9 hl hP hS
      have hG : GI nd (fo m_gasS w (M 4 2, M)).2 := hG0.cg cg_gas1
      refine lv_iload_n hx hb dX2_putGasBack_9 rfl (lv_at hl 0 rfl) ?_
      refine lv_aload_n hx hb dX2_putGasBack_10 rfl (lv_at hl 2 rfl) ?_
      refine x_get (ref := RX2) (C := RX2) (T := TX2) (N := 12) (ci := 2) (v := .int (((fo m_gasS w (M 4 2, M)).2) 0 2)) hx hb hts iX2 hown hK.1 hP (by omega) (by omega) (gw_0) rfl 2 (by decide) (hts (.fieldLink RX2 46 "PoreField$Ground" "drilled" "I") (by decide +kernel)) (fun _ h9 => h9) rfl dX2_putGasBack_11 ?_
      refine lv_icmp_ge (tgt := 78) hx hb dX2_putGasBack_14 (by decide) (fun c => absurd ((br_le (show (((fo m_gasS w (M 4 2, M)).2) 0 2) = nI nd from hG.dr) (show (nI w) = nI w from rfl) (by omega) (by omega)).mp c) (by omega)) (fun _ => ?_)
      refine lv_aload_n hx hb dX2_putGasBack_17 rfl (lv_at hl 2 rfl) ?_
      refine x_get (ref := RX2) (C := RX2) (T := TX2) (N := 12) (ci := 2) (v := .ref (g + 2)) hx hb hts iX2 hown hK.1 hP (by omega) (by omega) (gw_0) rfl 1 (by decide) (hts (.fieldLink RX2 19 "PoreField$Ground" "wells" "[LPoreField$Well;") (by decide +kernel)) (fun _ h9 => h9) rfl dX2_putGasBack_18 ?_
      refine lv_iload_n hx hb dX2_putGasBack_21 rfl (lv_at hl 0 rfl) ?_
      refine x_aald (b := (g + (37 + 2 * w))) hx hb hK.1 hP (by omega) (by omega) 2 (gw_2) rfl (cl_of_nI (i := w) rfl (by omega)) rfl (vp_in_of_nI (i := w) rfl (by omega) (by omega)) dX2_putGasBack_22 ?_
      refine x_get (ref := RX4) (C := RX4) (T := TX4) (N := 5) (ci := 4) (v := .int (((fo m_gasS w (M 4 2, M)).2) (37 + 2 * w) 0)) hx hb hts iX4 hown hK.1 hP (by omega) (by omega) (gw_well (by omega)) rfl 0 (by decide) (hts (.fieldLink RX2 72 "PoreField$Well" "kind" "I") (by decide +kernel)) (fun _ h9 => h9) rfl dX2_putGasBack_23 ?_
      refine lv_iconst (v := 2) hx hb dX2_putGasBack_26 (by decide) ?_
      refine lv_icmp_ne (tgt := 72) hx hb dX2_putGasBack_27 (by decide) (fun c_27 => ?_) (fun c_27 => ?_)
      · refine lv_iinc (v := (nI (w + 1))) (lv' := [(2, .int (nI (w + 1))), (1, .int ((fo m_gasS w (M 4 2, M)).1)), (0, .ref g)]) hx hb dX2_putGasBack_72 hl (k := 0) rfl (nI_1 _) (by decide) rfl (fun ls hl => ?_)
        refine lv_goto (tgt := 9) hx hb dX2_putGasBack_75 (by decide) ?_
        have hst1 : (fo m_gasS (w + 1) (M 4 2, M)).1 = ((fo m_gasS w (M 4 2, M)).1) := by simp only [fo, m_gasS, if_neg c_27]
        have hst2 : (fo m_gasS (w + 1) (M 4 2, M)).2 = (fo m_gasS w (M 4 2, M)).2 := by simp only [fo, m_gasS, if_neg c_27]
        have hl : lv_has ls 4 [(2, .int (nI (w + 1))), (1, .int ((fo m_gasS (w + 1) (M 4 2, M)).1)), (0, .ref g)] := by rw [hst1]; exact hl
        exact ih9 (w + 1) _ _ _ (by omega) (lv_sub hl [0, 1, 2] rfl) ((by rw [hst2]; exact hP)) hS
      · refine lv_iload_n hx hb dX2_putGasBack_30 rfl (lv_at hl 1 rfl) ?_
        refine lv_iconst (v := 2) hx hb dX2_putGasBack_31 (by decide) ?_
        refine lv_aload_n hx hb dX2_putGasBack_32 rfl (lv_at hl 2 rfl) ?_
        refine x_get (ref := RX2) (C := RX2) (T := TX2) (N := 12) (ci := 2) (v := .ref (g + 2)) hx hb hts iX2 hown hK.1 hP (by omega) (by omega) (gw_0) rfl 1 (by decide) (hts (.fieldLink RX2 19 "PoreField$Ground" "wells" "[LPoreField$Well;") (by decide +kernel)) (fun _ h9 => h9) rfl dX2_putGasBack_33 ?_
        refine lv_iload_n hx hb dX2_putGasBack_36 rfl (lv_at hl 0 rfl) ?_
        refine x_aald (b := (g + (37 + 2 * w))) hx hb hK.1 hP (by omega) (by omega) 2 (gw_2) rfl (cl_of_nI (i := w) rfl (by omega)) rfl (vp_in_of_nI (i := w) rfl (by omega) (by omega)) dX2_putGasBack_37 ?_
        refine x_get (ref := RX4) (C := RX4) (T := TX4) (N := 5) (ci := 4) (v := .int (((fo m_gasS w (M 4 2, M)).2) (37 + 2 * w) 2)) hx hb hts iX4 hown hK.1 hP (by omega) (by omega) (gw_well (by omega)) rfl 2 (by decide) (hts (.fieldLink RX2 103 "PoreField$Well" "choke" "I") (by decide +kernel)) (fun _ h9 => h9) rfl dX2_putGasBack_38 ?_
        refine lv_imul hx hb dX2_putGasBack_41 ?_
        refine va_mmin (own := RX2) hx hb (hml.trans hl.1.symm) hown (hts (.methodLink RX2 125 Lib.Math.min.name) (by decide +kernel)) (hts (.static Lib.Math.min.name) (by decide +kernel)) (hts (.initialized "java/lang/Math") (by decide +kernel)) (hts (.code Lib.Math.min.name Lib.Math.min.code 2 (some .int)) (by decide +kernel)) (Nat.le_of_ble_eq_true rfl) (Nat.le_of_ble_eq_true rfl) (Nat.zero_le _) (Nat.zero_le _) dX2_putGasBack_42 ?_
        refine lv_istore_n (lv' := [(3, .int (jmin ((fo m_gasS w (M 4 2, M)).1) ((2 : Int32) * (((fo m_gasS w (M 4 2, M)).2) (37 + 2 * w) 2)))), (2, .int (nI w)), (1, .int ((fo m_gasS w (M 4 2, M)).1)), (0, .ref g)]) hx hb dX2_putGasBack_45 rfl hl (by decide) rfl (fun ls hl => ?_)
        refine lv_aload_n hx hb dX2_putGasBack_46 rfl (lv_at hl 3 rfl) ?_
        refine lv_aload_n hx hb dX2_putGasBack_47 rfl (lv_at hl 3 rfl) ?_
        refine x_get (ref := RX2) (C := RX2) (T := TX2) (N := 12) (ci := 2) (v := .ref (g + 2)) hx hb hts iX2 hown hK.1 hP (by omega) (by omega) (gw_0) rfl 1 (by decide) (hts (.fieldLink RX2 19 "PoreField$Ground" "wells" "[LPoreField$Well;") (by decide +kernel)) (fun _ h9 => h9) rfl dX2_putGasBack_48 ?_
        refine lv_iload_n hx hb dX2_putGasBack_51 rfl (lv_at hl 1 rfl) ?_
        refine x_aald (b := (g + (37 + 2 * w))) hx hb hK.1 hP (by omega) (by omega) 2 (gw_2) rfl (cl_of_nI (i := w) rfl (by omega)) rfl (vp_in_of_nI (i := w) rfl (by omega) (by omega)) dX2_putGasBack_52 ?_
        refine lv_iconst (v := 2) hx hb dX2_putGasBack_53 (by decide) ?_
        refine lv_iload_n hx hb dX2_putGasBack_54 rfl (lv_at hl 0 rfl) ?_
        refine x_callv (va_runV (As := [.ref (g + (37 + 2 * w)), .int (2 : Int32), .int (jmin ((fo m_gasS w (M 4 2, M)).1) ((2 : Int32) * (((fo m_gasS w (M 4 2, M)).2) (37 + 2 * w) 2)))]) (rest := []) ⟨hx, hb, hml, hown, hts⟩ (c_X2_putIn l D cy lo n w0 g ((fo m_gasS w (M 4 2, M)).2) (by omega) (by omega) nd hG w (by omega) 2 (by omega) (jmin ((fo m_gasS w (M 4 2, M)).1) ((2 : Int32) * (((fo m_gasS w (M 4 2, M)).2) (37 + 2 * w) 2)))) (cwV 3 hts gX2_putGasBack_X2_putIn rfl rfl rfl (by decide +kernel) ⟨Nat.le_of_ble_eq_true rfl, Nat.le_of_ble_eq_true rfl⟩) (preV hP hK (x_recv (ci := 2) (q := (RX2, TX2, 12)) hK.1 hP (by omega) (by omega) rfl (gw_0))) rfl rfl hl.1 rfl (lv_room (Nat.le_of_ble_eq_true rfl)) dX2_putGasBack_55 ⟨Nat.le_of_ble_eq_true rfl, Nat.le_of_ble_eq_true rfl⟩) hS (fun H locs hP hS => ?_)
        have hG : GI nd (m_putIn ((fo m_gasS w (M 4 2, M)).2) w 2 (jmin ((fo m_gasS w (M 4 2, M)).1) ((2 : Int32) * (((fo m_gasS w (M 4 2, M)).2) (37 + 2 * w) 2)))) := hG.cg cg_putIn
        refine lv_iload_n hx hb dX2_putGasBack_58 rfl (lv_at hl 2 rfl) ?_
        refine lv_iload_n hx hb dX2_putGasBack_59 rfl (lv_at hl 0 rfl) ?_
        refine lv_isub hx hb dX2_putGasBack_60 ?_
        refine lv_istore_n (lv' := [(1, .int (((fo m_gasS w (M 4 2, M)).1) - (jmin ((fo m_gasS w (M 4 2, M)).1) ((2 : Int32) * (((fo m_gasS w (M 4 2, M)).2) (37 + 2 * w) 2))))), (3, .int (jmin ((fo m_gasS w (M 4 2, M)).1) ((2 : Int32) * (((fo m_gasS w (M 4 2, M)).2) (37 + 2 * w) 2)))), (2, .int (nI w)), (0, .ref g)]) hx hb dX2_putGasBack_61 rfl hl (by decide) rfl (fun ls hl => ?_)
        refine lv_aload_n hx hb dX2_putGasBack_62 rfl (lv_at hl 3 rfl) ?_
        refine lv_dup hx hb dX2_putGasBack_63 rfl ?_
        refine x_get (ref := RX2) (C := RX2) (T := TX2) (N := 12) (ci := 2) (v := .int ((m_putIn ((fo m_gasS w (M 4 2, M)).2) w 2 (jmin ((fo m_gasS w (M 4 2, M)).1) ((2 : Int32) * (((fo m_gasS w (M 4 2, M)).2) (37 + 2 * w) 2)))) 0 10)) hx hb hts iX2 hown hK.1 hP (by omega) (by omega) (gw_0) rfl 10 (by decide) (hts (.fieldLink RX2 91 "PoreField$Ground" "putBack" "I") (by decide +kernel)) (fun _ h9 => h9) rfl dX2_putGasBack_64 ?_
        refine lv_iload_n hx hb dX2_putGasBack_67 rfl (lv_at hl 1 rfl) ?_
        refine lv_iadd hx hb dX2_putGasBack_68 ?_
        refine x_put (ty := .int) (ref := RX2) (C := RX2) (T := TX2) (N := 12) (ci := 2) (v := .int (((m_putIn ((fo m_gasS w (M 4 2, M)).2) w 2 (jmin ((fo m_gasS w (M 4 2, M)).1) ((2 : Int32) * (((fo m_gasS w (M 4 2, M)).2) (37 + 2 * w) 2)))) 0 10) + (jmin ((fo m_gasS w (M 4 2, M)).1) ((2 : Int32) * (((fo m_gasS w (M 4 2, M)).2) (37 + 2 * w) 2))))) hx hb hts iX2 tyX2 tyX2_ok nmX2 hown hK.1 hP hS (by omega) (by omega) (gw_0) rfl 10 (by decide) (hts (.fieldLink RX2 91 "PoreField$Ground" "putBack" "I") (by decide +kernel)) (fun _ h9 => h9) rfl (by decide +kernel) rfl rfl (Nat.le_of_ble_eq_true rfl) dX2_putGasBack_69 (fun H locs hP hS => ?_)
        have hP := gp0 (j := 10) (v := (((m_putIn ((fo m_gasS w (M 4 2, M)).2) w 2 (jmin ((fo m_gasS w (M 4 2, M)).1) ((2 : Int32) * (((fo m_gasS w (M 4 2, M)).2) (37 + 2 * w) 2)))) 0 10) + (jmin ((fo m_gasS w (M 4 2, M)).1) ((2 : Int32) * (((fo m_gasS w (M 4 2, M)).2) (37 + 2 * w) 2))))) hP (rfl)
        have hG : GI nd (u2 (m_putIn ((fo m_gasS w (M 4 2, M)).2) w 2 (jmin ((fo m_gasS w (M 4 2, M)).1) ((2 : Int32) * (((fo m_gasS w (M 4 2, M)).2) (37 + 2 * w) 2)))) (0) 10 (((m_putIn ((fo m_gasS w (M 4 2, M)).2) w 2 (jmin ((fo m_gasS w (M 4 2, M)).1) ((2 : Int32) * (((fo m_gasS w (M 4 2, M)).2) (37 + 2 * w) 2)))) 0 10) + (jmin ((fo m_gasS w (M 4 2, M)).1) ((2 : Int32) * (((fo m_gasS w (M 4 2, M)).2) (37 + 2 * w) 2))))) := hG.cg (Cg.rf.u2 (by omega))
        refine lv_iinc (v := (nI (w + 1))) (lv' := [(2, .int (nI (w + 1))), (1, .int (((fo m_gasS w (M 4 2, M)).1) - (jmin ((fo m_gasS w (M 4 2, M)).1) ((2 : Int32) * (((fo m_gasS w (M 4 2, M)).2) (37 + 2 * w) 2))))), (3, .int (jmin ((fo m_gasS w (M 4 2, M)).1) ((2 : Int32) * (((fo m_gasS w (M 4 2, M)).2) (37 + 2 * w) 2)))), (0, .ref g)]) hx hb dX2_putGasBack_72 hl (k := 2) rfl (nI_1 _) (by decide) rfl (fun ls hl => ?_)
        refine lv_goto (tgt := 9) hx hb dX2_putGasBack_75 (by decide) ?_
        have hst1 : (fo m_gasS (w + 1) (M 4 2, M)).1 = (((fo m_gasS w (M 4 2, M)).1) - (jmin ((fo m_gasS w (M 4 2, M)).1) ((2 : Int32) * (((fo m_gasS w (M 4 2, M)).2) (37 + 2 * w) 2)))) := by simp only [fo, m_gasS, if_pos c_27]
        have hst2 : (fo m_gasS (w + 1) (M 4 2, M)).2 = u2 (m_putIn ((fo m_gasS w (M 4 2, M)).2) w 2 (jmin ((fo m_gasS w (M 4 2, M)).1) ((2 : Int32) * (((fo m_gasS w (M 4 2, M)).2) (37 + 2 * w) 2)))) (0) 10 (((m_putIn ((fo m_gasS w (M 4 2, M)).2) w 2 (jmin ((fo m_gasS w (M 4 2, M)).1) ((2 : Int32) * (((fo m_gasS w (M 4 2, M)).2) (37 + 2 * w) 2)))) 0 10) + (jmin ((fo m_gasS w (M 4 2, M)).1) ((2 : Int32) * (((fo m_gasS w (M 4 2, M)).2) (37 + 2 * w) 2)))) := by simp only [fo, m_gasS, if_pos c_27]
        have hl : lv_has ls 4 [(2, .int (nI (w + 1))), (1, .int ((fo m_gasS (w + 1) (M 4 2, M)).1)), (3, .int (jmin ((fo m_gasS w (M 4 2, M)).1) ((2 : Int32) * (((fo m_gasS w (M 4 2, M)).2) (37 + 2 * w) 2)))), (0, .ref g)] := by rw [hst1]; exact hl
        exact ih9 (w + 1) _ _ _ (by omega) (lv_sub hl [0, 1, 3] rfl) ((by rw [hst2]; exact hP)) hS
  exact hloop9 nd 0 _ _ _ (by omega) (lv_sub hl [0, 1, 2] rfl) (hP) hS

set_option maxRecDepth 100000 in
set_option maxHeartbeats 4000000 in
/-- Ground.putWaterIn -/
theorem c_X2_putWaterIn (l : Launch) (D : va_G) (cy : Nat → ClassId) (lo n : Nat) (w0 : Nat → va_E) (g : Nat) (M : Mem) (hg1 : lo ≤ g) (hg2 : g + 49 ≤ lo + n) (nd : Nat) (hG : GI nd M)  : Met l yX2_putWaterIn wsX2_putWaterIn ({ frames := 2, cells := 0, slots := 0, locals := 40 }) (PcW D cy lo n (gw cy w0 g M) [.ref g]) (QvW D lo n (gw cy w0 g (m_water nd M))) 0 0 (fun q : Nat => lo ≤ q) := by
  refine Met.ofW (cc := cX2_putWaterIn) (maxL := 3) (ret := none) (by decide) rfl ?_
  intro p e s m args below meth c s₁ B hml hv
  obtain ⟨rfl, hP, hK, hS⟩ := x_entry hv
  have hx := B.exec
  have hb := B.bytes
  have hr := B.returns
  have hts := atoms_spec (ws := wsX2_putWaterIn) B.pre
  have hown : s.vm.findClass RX2 = some m.cls := findClass_of_methodNamed B.named
  have hlocks := B.notSynchronized
  have iX2 : ∀ w ∈ u_ws RX2 TX2 12, w ∈ wsX2_putWaterIn := by decide +kernel
  have iX4 : ∀ w ∈ u_ws RX4 TX4 5, w ∈ wsX2_putWaterIn := by decide +kernel
  have hl := lv_entry ([.ref g]) (n := 3) (Nat.le_of_ble_eq_true rfl)
  rw [lg_entry_eq]
  generalize (lg_sl ([.ref g]) ++ List.replicate (3 - (lg_sl ([.ref g])).length) Slot.unset).toArray = ls at hl ⊢
  have hl : lv_has ls 3 [(0, .ref g)] := hl
  have hG0 := hG
  have hnd := hG.1
  refine lv_iconst (v := 0) hx hb dX2_putWaterIn_0 (by decide) ?_
  refine lv_istore_n (lv' := [(1, .int (0 : Int32)), (0, .ref g)]) hx hb dX2_putWaterIn_1 rfl hl (by decide) rfl (fun ls hl => ?_)
  have hloop2 : ∀ (w_r w : Nat) (H : Heap) (locs : List Loc) (ls : Array Slot), w + w_r = nd → lv_has ls 3 [(1, .int (nI w)), (0, .ref g)] → va_P D vwCl (rl lo n (gw cy w0 g (fo m_waterS w M))) H → va_S (fun q : Nat => lo ≤ q) s.heap H locs → W p l e (headSpec wsX2_putWaterIn ({ frames := 2, cells := 0, slots := 0, locals := 40 })).room s m (([.ref g] : List Value).toArray) below meth c H locs 0 0 (MQ below (QvW D lo n (gw cy w0 g (m_water nd M))) (([.ref g] : List Value).toArray) s 0 0 (fun q : Nat => lo ≤ q)) (F0 m 2 ls []) := by
    intro w_r
    induction w_r with
    | zero =>
      intro w H locs ls hk2 hl hP hS
      have ew : w = nd := by omega
      rw [ew] at hP
      rw [ew] at hl
      have hG : GI nd (fo m_waterS nd M) := hG0.cg cg_water1
      refine lv_iload_n hx hb dX2_putWaterIn_2 rfl (lv_at hl 0 rfl) ?_
      refine lv_aload_n hx hb dX2_putWaterIn_3 rfl (lv_at hl 1 rfl) ?_
      refine x_get (ref := RX2) (C := RX2) (T := TX2) (N := 12) (ci := 2) (v := .int ((fo m_waterS nd M) 0 2)) hx hb hts iX2 hown hK.1 hP (by omega) (by omega) (gw_0) rfl 2 (by decide) (hts (.fieldLink RX2 46 "PoreField$Ground" "drilled" "I") (by decide +kernel)) (fun _ h9 => h9) rfl dX2_putWaterIn_4 ?_
      refine lv_icmp_ge (tgt := 86) hx hb dX2_putWaterIn_7 (by decide) (fun _ => ?_) (fun c => absurd ((br_le (show ((fo m_waterS nd M) 0 2) = nI nd from hG.dr) (show (nI nd) = nI nd from rfl) (by omega) (by omega)).mpr (by omega)) c)
      exact W.vret hx hb hr (fun tE ht hW => ⟨⟨(), rfl, trivial, x_at ht (hP)⟩, hS.F ht⟩) hS.2.2 dX2_putWaterIn_86
    | succ w_r ih2 =>
      intro w H locs ls hk2 hl hP hS
      have hG : GI nd (fo m_waterS w M) := hG0.cg cg_water1
      refine lv_iload_n hx hb dX2_putWaterIn_2 rfl (lv_at hl 0 rfl) ?_
      refine lv_aload_n hx hb dX2_putWaterIn_3 rfl (lv_at hl 1 rfl) ?_
      refine x_get (ref := RX2) (C := RX2) (T := TX2) (N := 12) (ci := 2) (v := .int ((fo m_waterS w M) 0 2)) hx hb hts iX2 hown hK.1 hP (by omega) (by omega) (gw_0) rfl 2 (by decide) (hts (.fieldLink RX2 46 "PoreField$Ground" "drilled" "I") (by decide +kernel)) (fun _ h9 => h9) rfl dX2_putWaterIn_4 ?_
      refine lv_icmp_ge (tgt := 86) hx hb dX2_putWaterIn_7 (by decide) (fun c => absurd ((br_le (show ((fo m_waterS w M) 0 2) = nI nd from hG.dr) (show (nI w) = nI w from rfl) (by omega) (by omega)).mp c) (by omega)) (fun _ => ?_)
      refine lv_aload_n hx hb dX2_putWaterIn_10 rfl (lv_at hl 1 rfl) ?_
      refine x_get (ref := RX2) (C := RX2) (T := TX2) (N := 12) (ci := 2) (v := .ref (g + 2)) hx hb hts iX2 hown hK.1 hP (by omega) (by omega) (gw_0) rfl 1 (by decide) (hts (.fieldLink RX2 19 "PoreField$Ground" "wells" "[LPoreField$Well;") (by decide +kernel)) (fun _ h9 => h9) rfl dX2_putWaterIn_11 ?_
      refine lv_iload_n hx hb dX2_putWaterIn_14 rfl (lv_at hl 0 rfl) ?_
      refine x_aald (b := (g + (37 + 2 * w))) hx hb hK.1 hP (by omega) (by omega) 2 (gw_2) rfl (cl_of_nI (i := w) rfl (by omega)) rfl (vp_in_of_nI (i := w) rfl (by omega) (by omega)) dX2_putWaterIn_15 ?_
      refine x_get (ref := RX4) (C := RX4) (T := TX4) (N := 5) (ci := 4) (v := .int ((fo m_waterS w M) (37 + 2 * w) 0)) hx hb hts iX4 hown hK.1 hP (by omega) (by omega) (gw_well (by omega)) rfl 0 (by decide) (hts (.fieldLink RX2 72 "PoreField$Well" "kind" "I") (by decide +kernel)) (fun _ h9 => h9) rfl dX2_putWaterIn_16 ?_
      refine lv_iconst (v := 1) hx hb dX2_putWaterIn_19 (by decide) ?_
      refine lv_icmp_ne (tgt := 80) hx hb dX2_putWaterIn_20 (by decide) (fun c_20 => ?_) (fun c_20 => ?_)
      · refine lv_iinc (v := (nI (w + 1))) (lv' := [(1, .int (nI (w + 1))), (0, .ref g)]) hx hb dX2_putWaterIn_80 hl (k := 0) rfl (nI_1 _) (by decide) rfl (fun ls hl => ?_)
        refine lv_goto (tgt := 2) hx hb dX2_putWaterIn_83 (by decide) ?_
        exact ih2 (w + 1) _ _ _ (by omega) (lv_sub hl [0, 1] rfl) ((by rw [show fo m_waterS (w + 1) M = fo m_waterS w M from (by simp only [fo, m_waterS, if_neg c_20])]; exact hP)) hS
      · refine lv_aload_n hx hb dX2_putWaterIn_23 rfl (lv_at hl 1 rfl) ?_
        refine x_get (ref := RX2) (C := RX2) (T := TX2) (N := 12) (ci := 2) (v := .ref (g + 1)) hx hb hts iX2 hown hK.1 hP (by omega) (by omega) (gw_0) rfl 0 (by decide) (hts (.fieldLink RX2 11 "PoreField$Ground" "cells" "[LPoreField$Cell;") (by decide +kernel)) (fun _ h9 => h9) rfl dX2_putWaterIn_24 ?_
        refine lv_aload_n hx hb dX2_putWaterIn_27 rfl (lv_at hl 1 rfl) ?_
        refine x_get (ref := RX2) (C := RX2) (T := TX2) (N := 12) (ci := 2) (v := .ref (g + 2)) hx hb hts iX2 hown hK.1 hP (by omega) (by omega) (gw_0) rfl 1 (by decide) (hts (.fieldLink RX2 19 "PoreField$Ground" "wells" "[LPoreField$Well;") (by decide +kernel)) (fun _ h9 => h9) rfl dX2_putWaterIn_28 ?_
        refine lv_iload_n hx hb dX2_putWaterIn_31 rfl (lv_at hl 0 rfl) ?_
        refine x_aald (b := (g + (37 + 2 * w))) hx hb hK.1 hP (by omega) (by omega) 2 (gw_2) rfl (cl_of_nI (i := w) rfl (by omega)) rfl (vp_in_of_nI (i := w) rfl (by omega) (by omega)) dX2_putWaterIn_32 ?_
        have hcx := hG.cx (w := w) (by omega)
        refine x_get (ref := RX4) (C := RX4) (T := TX4) (N := 5) (ci := 4) (v := .int ((fo m_waterS w M) (37 + 2 * w) 1)) hx hb hts iX4 hown hK.1 hP (by omega) (by omega) (gw_well (by omega)) rfl 1 (by decide) (hts (.fieldLink RX2 106 "PoreField$Well" "cell" "I") (by decide +kernel)) (fun _ h9 => h9) rfl dX2_putWaterIn_33 ?_
        refine x_aald (b := (g + (5 + 2 * (cix (fo m_waterS w M) w)))) hx hb hK.1 hP (by omega) (by omega) 1 (gw_1) rfl (cl_of_nI (i := (cix (fo m_waterS w M) w)) (hG.ce (by omega)) (by omega)) rfl (vp_in_of_nI (i := (cix (fo m_waterS w M) w)) (hG.ce (by omega)) (by omega) (by omega)) dX2_putWaterIn_36 ?_
        refine x_calli (va_runV (As := []) (rest := []) ⟨hx, hb, hml, hown, hts⟩ (c_X1_pressure l D cy lo n w0 g (fo m_waterS w M) (by omega) (by omega) (cix (fo m_waterS w M) w) (by omega) (hG.rm (by omega))) (cwV 0 hts gX2_putWaterIn_X1_pressure rfl rfl rfl (by decide +kernel) ⟨Nat.le_of_ble_eq_true rfl, Nat.le_of_ble_eq_true rfl⟩) (preV hP hK (x_recv (ci := 1) (q := (RX1, TX1, 4)) hK.1 hP (by omega) (by omega) rfl (gw_cell (by omega)))) rfl rfl hl.1 rfl (lv_room (Nat.le_of_ble_eq_true rfl)) dX2_putWaterIn_37 ⟨Nat.le_of_ble_eq_true rfl, Nat.le_of_ble_eq_true rfl⟩) hS (fun H locs hP hS => ?_)
        refine lv_sipush (v := 200) hx hb dX2_putWaterIn_40 (by decide) ?_
        refine lv_icmp_ge (tgt := 80) hx hb dX2_putWaterIn_43 (by decide) (fun c_43 => ?_) (fun c_43 => ?_)
        · refine lv_iinc (v := (nI (w + 1))) (lv' := [(1, .int (nI (w + 1))), (0, .ref g)]) hx hb dX2_putWaterIn_80 hl (k := 0) rfl (nI_1 _) (by decide) rfl (fun ls hl => ?_)
          refine lv_goto (tgt := 2) hx hb dX2_putWaterIn_83 (by decide) ?_
          exact ih2 (w + 1) _ _ _ (by omega) (lv_sub hl [0, 1] rfl) ((by rw [show fo m_waterS (w + 1) M = fo m_waterS w M from (by simp only [fo, m_waterS, if_pos c_20, if_pos c_43])]; exact hP)) hS
        · refine lv_iconst (v := 2) hx hb dX2_putWaterIn_46 (by decide) ?_
          refine lv_aload_n hx hb dX2_putWaterIn_47 rfl (lv_at hl 1 rfl) ?_
          refine x_get (ref := RX2) (C := RX2) (T := TX2) (N := 12) (ci := 2) (v := .ref (g + 2)) hx hb hts iX2 hown hK.1 hP (by omega) (by omega) (gw_0) rfl 1 (by decide) (hts (.fieldLink RX2 19 "PoreField$Ground" "wells" "[LPoreField$Well;") (by decide +kernel)) (fun _ h9 => h9) rfl dX2_putWaterIn_48 ?_
          refine lv_iload_n hx hb dX2_putWaterIn_51 rfl (lv_at hl 0 rfl) ?_
          refine x_aald (b := (g + (37 + 2 * w))) hx hb hK.1 hP (by omega) (by omega) 2 (gw_2) rfl (cl_of_nI (i := w) rfl (by omega)) rfl (vp_in_of_nI (i := w) rfl (by omega) (by omega)) dX2_putWaterIn_52 ?_
          refine x_get (ref := RX4) (C := RX4) (T := TX4) (N := 5) (ci := 4) (v := .int ((fo m_waterS w M) (37 + 2 * w) 2)) hx hb hts iX4 hown hK.1 hP (by omega) (by omega) (gw_well (by omega)) rfl 2 (by decide) (hts (.fieldLink RX2 103 "PoreField$Well" "choke" "I") (by decide +kernel)) (fun _ h9 => h9) rfl dX2_putWaterIn_53 ?_
          refine lv_imul hx hb dX2_putWaterIn_56 ?_
          refine lv_istore_n (lv' := [(2, .int ((2 : Int32) * ((fo m_waterS w M) (37 + 2 * w) 2))), (1, .int (nI w)), (0, .ref g)]) hx hb dX2_putWaterIn_57 rfl hl (by decide) rfl (fun ls hl => ?_)
          refine lv_aload_n hx hb dX2_putWaterIn_58 rfl (lv_at hl 2 rfl) ?_
          refine lv_aload_n hx hb dX2_putWaterIn_59 rfl (lv_at hl 2 rfl) ?_
          refine x_get (ref := RX2) (C := RX2) (T := TX2) (N := 12) (ci := 2) (v := .ref (g + 2)) hx hb hts iX2 hown hK.1 hP (by omega) (by omega) (gw_0) rfl 1 (by decide) (hts (.fieldLink RX2 19 "PoreField$Ground" "wells" "[LPoreField$Well;") (by decide +kernel)) (fun _ h9 => h9) rfl dX2_putWaterIn_60 ?_
          refine lv_iload_n hx hb dX2_putWaterIn_63 rfl (lv_at hl 1 rfl) ?_
          refine x_aald (b := (g + (37 + 2 * w))) hx hb hK.1 hP (by omega) (by omega) 2 (gw_2) rfl (cl_of_nI (i := w) rfl (by omega)) rfl (vp_in_of_nI (i := w) rfl (by omega) (by omega)) dX2_putWaterIn_64 ?_
          refine lv_iconst (v := 1) hx hb dX2_putWaterIn_65 (by decide) ?_
          refine lv_iload_n hx hb dX2_putWaterIn_66 rfl (lv_at hl 0 rfl) ?_
          refine x_callv (va_runV (As := [.ref (g + (37 + 2 * w)), .int (1 : Int32), .int ((2 : Int32) * ((fo m_waterS w M) (37 + 2 * w) 2))]) (rest := []) ⟨hx, hb, hml, hown, hts⟩ (c_X2_putIn l D cy lo n w0 g (fo m_waterS w M) (by omega) (by omega) nd hG w (by omega) 1 (by omega) ((2 : Int32) * ((fo m_waterS w M) (37 + 2 * w) 2))) (cwV 3 hts gX2_putWaterIn_X2_putIn rfl rfl rfl (by decide +kernel) ⟨Nat.le_of_ble_eq_true rfl, Nat.le_of_ble_eq_true rfl⟩) (preV hP hK (x_recv (ci := 2) (q := (RX2, TX2, 12)) hK.1 hP (by omega) (by omega) rfl (gw_0))) rfl rfl hl.1 rfl (lv_room (Nat.le_of_ble_eq_true rfl)) dX2_putWaterIn_67 ⟨Nat.le_of_ble_eq_true rfl, Nat.le_of_ble_eq_true rfl⟩) hS (fun H locs hP hS => ?_)
          have hG : GI nd (m_putIn (fo m_waterS w M) w 1 ((2 : Int32) * ((fo m_waterS w M) (37 + 2 * w) 2))) := hG.cg cg_putIn
          refine lv_aload_n hx hb dX2_putWaterIn_70 rfl (lv_at hl 2 rfl) ?_
          refine lv_dup hx hb dX2_putWaterIn_71 rfl ?_
          refine x_get (ref := RX2) (C := RX2) (T := TX2) (N := 12) (ci := 2) (v := .int ((m_putIn (fo m_waterS w M) w 1 ((2 : Int32) * ((fo m_waterS w M) (37 + 2 * w) 2))) 0 11)) hx hb hts iX2 hown hK.1 hP (by omega) (by omega) (gw_0) rfl 11 (by decide) (hts (.fieldLink RX2 94 "PoreField$Ground" "waterIn" "I") (by decide +kernel)) (fun _ h9 => h9) rfl dX2_putWaterIn_72 ?_
          refine lv_iload_n hx hb dX2_putWaterIn_75 rfl (lv_at hl 0 rfl) ?_
          refine lv_iadd hx hb dX2_putWaterIn_76 ?_
          refine x_put (ty := .int) (ref := RX2) (C := RX2) (T := TX2) (N := 12) (ci := 2) (v := .int (((m_putIn (fo m_waterS w M) w 1 ((2 : Int32) * ((fo m_waterS w M) (37 + 2 * w) 2))) 0 11) + ((2 : Int32) * ((fo m_waterS w M) (37 + 2 * w) 2)))) hx hb hts iX2 tyX2 tyX2_ok nmX2 hown hK.1 hP hS (by omega) (by omega) (gw_0) rfl 11 (by decide) (hts (.fieldLink RX2 94 "PoreField$Ground" "waterIn" "I") (by decide +kernel)) (fun _ h9 => h9) rfl (by decide +kernel) rfl rfl (Nat.le_of_ble_eq_true rfl) dX2_putWaterIn_77 (fun H locs hP hS => ?_)
          have hP := gp0 (j := 11) (v := (((m_putIn (fo m_waterS w M) w 1 ((2 : Int32) * ((fo m_waterS w M) (37 + 2 * w) 2))) 0 11) + ((2 : Int32) * ((fo m_waterS w M) (37 + 2 * w) 2)))) hP (rfl)
          have hG : GI nd (u2 (m_putIn (fo m_waterS w M) w 1 ((2 : Int32) * ((fo m_waterS w M) (37 + 2 * w) 2))) (0) 11 (((m_putIn (fo m_waterS w M) w 1 ((2 : Int32) * ((fo m_waterS w M) (37 + 2 * w) 2))) 0 11) + ((2 : Int32) * ((fo m_waterS w M) (37 + 2 * w) 2)))) := hG.cg (Cg.rf.u2 (by omega))
          refine lv_iinc (v := (nI (w + 1))) (lv' := [(1, .int (nI (w + 1))), (2, .int ((2 : Int32) * ((fo m_waterS w M) (37 + 2 * w) 2))), (0, .ref g)]) hx hb dX2_putWaterIn_80 hl (k := 1) rfl (nI_1 _) (by decide) rfl (fun ls hl => ?_)
          refine lv_goto (tgt := 2) hx hb dX2_putWaterIn_83 (by decide) ?_
          exact ih2 (w + 1) _ _ _ (by omega) (lv_sub hl [0, 2] rfl) ((by rw [show fo m_waterS (w + 1) M = u2 (m_putIn (fo m_waterS w M) w 1 ((2 : Int32) * ((fo m_waterS w M) (37 + 2 * w) 2))) (0) 11 (((m_putIn (fo m_waterS w M) w 1 ((2 : Int32) * ((fo m_waterS w M) (37 + 2 * w) 2))) 0 11) + ((2 : Int32) * ((fo m_waterS w M) (37 + 2 * w) 2))) from (by simp only [fo, m_waterS, if_pos c_20, if_neg c_43])]; exact hP)) hS
  exact hloop2 nd 0 _ _ _ (by omega) (lv_sub hl [0, 1] rfl) (hP) hS
