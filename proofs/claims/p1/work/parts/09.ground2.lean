set_option maxRecDepth 100000 in
set_option maxHeartbeats 4000000 in
/-- PoreField.neighbour -/
theorem c_X6_neighbour (l : Launch) (D : va_G) (cy : Nat → ClassId) (lo n : Nat) (w0 : Nat → va_E) (ce : Nat) (hc : ce < 16) (b : Int32) : Met l yX6_neighbour wsX6_neighbour ({ frames := 0, cells := 0, slots := 0, locals := 0 }) (PcW D cy lo n w0 [.int (nI ce), .int b]) (QiW D lo n w0 (m_nb ce b)) 0 0 (fun q : Nat => lo ≤ q) := by
  refine Met.ofW (cc := cX6_neighbour) (maxL := 2) (ret := (some .int)) (by decide) rfl ?_
  intro p e s m args below meth c s₁ B hml hv
  obtain ⟨rfl, hP, hK, hS⟩ := x_entry hv
  have hx := B.exec
  have hb := B.bytes
  have hr := B.returns
  have hts := atoms_spec (ws := wsX6_neighbour) B.pre
  have hown : s.vm.findClass RX6 = some m.cls := findClass_of_methodNamed B.named
  have hlocks := B.notSynchronized
  have hl := lv_entry ([.int (nI ce), .int b]) (n := 2) (Nat.le_of_ble_eq_true rfl)
  rw [lg_entry_eq]
  generalize (lg_sl ([.int (nI ce), .int b]) ++ List.replicate (2 - (lg_sl ([.int (nI ce), .int b])).length) Slot.unset).toArray = ls at hl ⊢
  have hl : lv_has ls 2 [(0, .int (nI ce)), (1, .int b)] := hl
  refine lv_iload_n hx hb dX6_neighbour_0 rfl (lv_at hl 1 rfl) ?_
  refine lv_if_eq (tgt := 19) hx hb dX6_neighbour_1 (by decide) (fun c_1 => ?_) (fun c_1 => ?_)
  · refine lv_iload_n hx hb dX6_neighbour_19 rfl (lv_at hl 0 rfl) ?_
    refine lv_iconst (v := 4) hx hb dX6_neighbour_20 (by decide) ?_
    refine lv_iadd hx hb dX6_neighbour_21 ?_
    refine lv_bipush (v := 16) hx hb dX6_neighbour_22 (by decide) ?_
    refine lv_icmp_lt (tgt := 31) hx hb dX6_neighbour_24 (by decide) (fun c_24 => ?_) (fun c_24 => ?_)
    · refine lv_iload_n hx hb dX6_neighbour_31 rfl (lv_at hl 0 rfl) ?_
      refine lv_iconst (v := 4) hx hb dX6_neighbour_32 (by decide) ?_
      refine lv_iadd hx hb dX6_neighbour_33 ?_
      exact W.iret (v := ((nI ce) + (4 : Int32))) hx hb hr (fun tE ht hW => ⟨⟨((nI ce) + (4 : Int32)), (), rfl, (by simp only [m_nb, if_pos c_1, if_pos c_24]), x_at ht (hP)⟩, hS.F ht⟩) hS.2.2 dX6_neighbour_34
    · refine lv_iconst (v := -1) hx hb dX6_neighbour_27 (by decide) ?_
      refine lv_goto (tgt := 34) hx hb dX6_neighbour_28 (by decide) ?_
      exact W.iret (v := (-1 : Int32)) hx hb hr (fun tE ht hW => ⟨⟨(-1 : Int32), (), rfl, (by simp only [m_nb, if_pos c_1, if_neg c_24]), x_at ht (hP)⟩, hS.F ht⟩) hS.2.2 dX6_neighbour_34
  · refine lv_iload_n hx hb dX6_neighbour_4 rfl (lv_at hl 0 rfl) ?_
    refine lv_iconst (v := 4) hx hb dX6_neighbour_5 (by decide) ?_
    refine lv_irem hx hb dX6_neighbour_6 (by decide) ?_
    refine lv_iconst (v := 3) hx hb dX6_neighbour_7 (by decide) ?_
    refine lv_icmp_ne (tgt := 15) hx hb dX6_neighbour_8 (by decide) (fun c_8 => ?_) (fun c_8 => ?_)
    · refine lv_iload_n hx hb dX6_neighbour_15 rfl (lv_at hl 0 rfl) ?_
      refine lv_iconst (v := 1) hx hb dX6_neighbour_16 (by decide) ?_
      refine lv_iadd hx hb dX6_neighbour_17 ?_
      exact W.iret (v := ((nI ce) + (1 : Int32))) hx hb hr (fun tE ht hW => ⟨⟨((nI ce) + (1 : Int32)), (), rfl, (by simp only [m_nb, if_neg c_1, if_neg c_8]), x_at ht (hP)⟩, hS.F ht⟩) hS.2.2 dX6_neighbour_18
    · refine lv_iconst (v := -1) hx hb dX6_neighbour_11 (by decide) ?_
      refine lv_goto (tgt := 18) hx hb dX6_neighbour_12 (by decide) ?_
      exact W.iret (v := (-1 : Int32)) hx hb hr (fun tE ht hW => ⟨⟨(-1 : Int32), (), rfl, (by simp only [m_nb, if_neg c_1, if_pos c_8]), x_at ht (hP)⟩, hS.F ht⟩) hS.2.2 dX6_neighbour_18

set_option maxRecDepth 100000 in
set_option maxHeartbeats 4000000 in
/-- Ground.evenOut -/
theorem c_X2_evenOut (l : Launch) (D : va_G) (cy : Nat → ClassId) (lo n : Nat) (w0 : Nat → va_E) (g : Nat) (M : Mem) (hg1 : lo ≤ g) (hg2 : g + 49 ≤ lo + n) (nd : Nat) (hG : GI nd M) (ce : Nat) (hc : ce < 16) (b : Int32) : Met l yX2_evenOut wsX2_evenOut ({ frames := 2, cells := 0, slots := 0, locals := 49 }) (PcW D cy lo n (gw cy w0 g M) [.ref g, .int (nI ce), .int b]) (QvW D lo n (gw cy w0 g (m_even b ce M))) 0 0 (fun q : Nat => lo ≤ q) := by
  refine Met.ofW (cc := cX2_evenOut) (maxL := 7) (ret := none) (by decide) rfl ?_
  intro p e s m args below meth c s₁ B hml hv
  obtain ⟨rfl, hP, hK, hS⟩ := x_entry hv
  have hx := B.exec
  have hb := B.bytes
  have hr := B.returns
  have hts := atoms_spec (ws := wsX2_evenOut) B.pre
  have hown : s.vm.findClass RX2 = some m.cls := findClass_of_methodNamed B.named
  have hlocks := B.notSynchronized
  have iX1 : ∀ w ∈ u_ws RX1 TX1 4, w ∈ wsX2_evenOut := by decide +kernel
  have iX2 : ∀ w ∈ u_ws RX2 TX2 12, w ∈ wsX2_evenOut := by decide +kernel
  have hl := lv_entry ([.ref g, .int (nI ce), .int b]) (n := 7) (Nat.le_of_ble_eq_true rfl)
  rw [lg_entry_eq]
  generalize (lg_sl ([.ref g, .int (nI ce), .int b]) ++ List.replicate (7 - (lg_sl ([.ref g, .int (nI ce), .int b])).length) Slot.unset).toArray = ls at hl ⊢
  have hl : lv_has ls 7 [(0, .ref g), (1, .int (nI ce)), (2, .int b)] := hl
  refine lv_iload_n hx hb dX2_evenOut_0 rfl (lv_at hl 1 rfl) ?_
  refine lv_iload_n hx hb dX2_evenOut_1 rfl (lv_at hl 2 rfl) ?_
  refine x_calli (va_runSN (As := [.int (nI ce), .int b]) (rest := []) ⟨hx, hb, hml, hown, hts⟩ (c_X6_neighbour l D cy lo n (gw cy w0 g M) ce (by omega) b) ⟨va_cnB 2 hts gX2_evenOut_X6_neighbour_n142 rfl rfl rfl hK.2.1 (hts (.initialized RX6) (by decide +kernel)) (by decide +kernel) ⟨Nat.le_of_ble_eq_true rfl, Nat.le_of_ble_eq_true rfl⟩, hts (.static yX6_neighbour) (by decide +kernel), trivial⟩ (preS hP hK) rfl rfl hl.1 rfl (lv_room (Nat.le_of_ble_eq_true rfl)) dX2_evenOut_2 ⟨Nat.le_of_ble_eq_true rfl, Nat.le_of_ble_eq_true rfl⟩) hS (fun H locs hP hS => ?_)
  refine lv_istore_n (lv' := [(3, .int (m_nb ce b)), (0, .ref g), (1, .int (nI ce)), (2, .int b)]) hx hb dX2_evenOut_5 rfl hl (by decide) rfl (fun ls hl => ?_)
  refine lv_iload_n hx hb dX2_evenOut_6 rfl (lv_at hl 0 rfl) ?_
  refine lv_iconst (v := -1) hx hb dX2_evenOut_7 (by decide) ?_
  refine lv_icmp_eq (tgt := 24) hx hb dX2_evenOut_8 (by decide) (fun c_8 => ?_) (fun c_8 => ?_)
  · exact W.vret hx hb hr (fun tE ht hW => ⟨⟨(), rfl, trivial, x_at ht ((by rw [show m_even b ce M = M from (by simp only [m_even, if_pos c_8])]; exact hP))⟩, hS.F ht⟩) hS.2.2 dX2_evenOut_24
  · have hnb := nb_ok hc c_8
    refine lv_aload_n hx hb dX2_evenOut_11 rfl (lv_at hl 1 rfl) ?_
    refine x_get (ref := RX2) (C := RX2) (T := TX2) (N := 12) (ci := 2) (v := .ref (g + 1)) hx hb hts iX2 hown hK.1 hP (by omega) (by omega) (gw_0) rfl 0 (by decide) (hts (.fieldLink RX2 11 "PoreField$Ground" "cells" "[LPoreField$Cell;") (by decide +kernel)) (fun _ h9 => h9) rfl dX2_evenOut_12 ?_
    refine lv_iload_n hx hb dX2_evenOut_15 rfl (lv_at hl 2 rfl) ?_
    refine x_aald (b := (g + (5 + 2 * ce))) hx hb hK.1 hP (by omega) (by omega) 1 (gw_1) rfl (cl_of_nI (i := ce) rfl (by omega)) rfl (vp_in_of_nI (i := ce) rfl (by omega) (by omega)) dX2_evenOut_16 ?_
    refine lv_iload_n hx hb dX2_evenOut_17 rfl (lv_at hl 3 rfl) ?_
    refine x_calli (va_runV (As := [.int b]) (rest := []) ⟨hx, hb, hml, hown, hts⟩ (c_X1_isShut l D cy lo n w0 g M (by omega) (by omega) ce (by omega) b (hG.sh (by omega))) (cwV 1 hts gX2_evenOut_X1_isShut rfl rfl rfl (by decide +kernel) ⟨Nat.le_of_ble_eq_true rfl, Nat.le_of_ble_eq_true rfl⟩) (preV hP hK (x_recv (ci := 1) (q := (RX1, TX1, 4)) hK.1 hP (by omega) (by omega) rfl (gw_cell (by omega)))) rfl rfl hl.1 rfl (lv_room (Nat.le_of_ble_eq_true rfl)) dX2_evenOut_18 ⟨Nat.le_of_ble_eq_true rfl, Nat.le_of_ble_eq_true rfl⟩) hS (fun H locs hP hS => ?_)
    refine lv_if_eq (tgt := 25) hx hb dX2_evenOut_21 (by decide) (fun c_21 => ?_) (fun c_21 => ?_)
    · refine lv_aload_n hx hb dX2_evenOut_25 rfl (lv_at hl 1 rfl) ?_
      refine x_get (ref := RX2) (C := RX2) (T := TX2) (N := 12) (ci := 2) (v := .ref (g + 1)) hx hb hts iX2 hown hK.1 hP (by omega) (by omega) (gw_0) rfl 0 (by decide) (hts (.fieldLink RX2 11 "PoreField$Ground" "cells" "[LPoreField$Cell;") (by decide +kernel)) (fun _ h9 => h9) rfl dX2_evenOut_26 ?_
      refine lv_iload_n hx hb dX2_evenOut_29 rfl (lv_at hl 2 rfl) ?_
      refine x_aald (b := (g + (5 + 2 * ce))) hx hb hK.1 hP (by omega) (by omega) 1 (gw_1) rfl (cl_of_nI (i := ce) rfl (by omega)) rfl (vp_in_of_nI (i := ce) rfl (by omega) (by omega)) dX2_evenOut_30 ?_
      refine lv_astore (lv' := [(4, .ref (g + (5 + 2 * ce))), (3, .int (m_nb ce b)), (0, .ref g), (1, .int (nI ce)), (2, .int b)]) hx hb dX2_evenOut_31 hl (by decide) rfl (fun ls hl => ?_)
      refine lv_aload_n hx hb dX2_evenOut_33 rfl (lv_at hl 2 rfl) ?_
      refine x_get (ref := RX2) (C := RX2) (T := TX2) (N := 12) (ci := 2) (v := .ref (g + 1)) hx hb hts iX2 hown hK.1 hP (by omega) (by omega) (gw_0) rfl 0 (by decide) (hts (.fieldLink RX2 11 "PoreField$Ground" "cells" "[LPoreField$Cell;") (by decide +kernel)) (fun _ h9 => h9) rfl dX2_evenOut_34 ?_
      refine lv_iload_n hx hb dX2_evenOut_37 rfl (lv_at hl 1 rfl) ?_
      refine x_aald (b := (g + (5 + 2 * (nbd ce b)))) hx hb hK.1 hP (by omega) (by omega) 1 (gw_1) rfl (cl_of_nI (i := (nbd ce b)) hnb.2 (by omega)) rfl (vp_in_of_nI (i := (nbd ce b)) hnb.2 (by omega) (by omega)) dX2_evenOut_38 ?_
      refine lv_astore (lv' := [(5, .ref (g + (5 + 2 * (nbd ce b)))), (4, .ref (g + (5 + 2 * ce))), (3, .int (m_nb ce b)), (0, .ref g), (1, .int (nI ce)), (2, .int b)]) hx hb dX2_evenOut_39 hl (by decide) rfl (fun ls hl => ?_)
      refine lv_aload hx hb dX2_evenOut_41 (lv_at hl 1 rfl) ?_
      refine x_calli (va_runV (As := []) (rest := []) ⟨hx, hb, hml, hown, hts⟩ (c_X1_pressure l D cy lo n w0 g M (by omega) (by omega) ce (by omega) (hG.rm (by omega))) (cwV 0 hts gX2_evenOut_X1_pressure rfl rfl rfl (by decide +kernel) ⟨Nat.le_of_ble_eq_true rfl, Nat.le_of_ble_eq_true rfl⟩) (preV hP hK (x_recv (ci := 1) (q := (RX1, TX1, 4)) hK.1 hP (by omega) (by omega) rfl (gw_cell (by omega)))) rfl rfl hl.1 rfl (lv_room (Nat.le_of_ble_eq_true rfl)) dX2_evenOut_43 ⟨Nat.le_of_ble_eq_true rfl, Nat.le_of_ble_eq_true rfl⟩) hS (fun H locs hP hS => ?_)
      refine lv_aload hx hb dX2_evenOut_46 (lv_at hl 0 rfl) ?_
      refine x_calli (va_runV (As := []) (rest := [.int (m_pressure M ce)]) ⟨hx, hb, hml, hown, hts⟩ (c_X1_pressure l D cy lo n w0 g M (by omega) (by omega) (nbd ce b) (by omega) (hG.rm (by omega))) (cwV 0 hts gX2_evenOut_X1_pressure rfl rfl rfl (by decide +kernel) ⟨Nat.le_of_ble_eq_true rfl, Nat.le_of_ble_eq_true rfl⟩) (preV hP hK (x_recv (ci := 1) (q := (RX1, TX1, 4)) hK.1 hP (by omega) (by omega) rfl (gw_cell (by omega)))) rfl rfl hl.1 rfl (lv_room (Nat.le_of_ble_eq_true rfl)) dX2_evenOut_48 ⟨Nat.le_of_ble_eq_true rfl, Nat.le_of_ble_eq_true rfl⟩) hS (fun H locs hP hS => ?_)
      refine lv_isub hx hb dX2_evenOut_51 ?_
      refine lv_istore (lv' := [(6, .int ((m_pressure M ce) - (m_pressure M (nbd ce b)))), (5, .ref (g + (5 + 2 * (nbd ce b)))), (4, .ref (g + (5 + 2 * ce))), (3, .int (m_nb ce b)), (0, .ref g), (1, .int (nI ce)), (2, .int b)]) hx hb dX2_evenOut_52 hl (by decide) rfl (fun ls hl => ?_)
      refine lv_iload hx hb dX2_evenOut_54 (lv_at hl 0 rfl) ?_
      refine lv_if_le (tgt := 77) hx hb dX2_evenOut_56 (by decide) (fun c_56 => ?_) (fun c_56 => ?_)
      · refine lv_aload hx hb dX2_evenOut_77 (lv_at hl 1 rfl) ?_
        refine lv_iload hx hb dX2_evenOut_79 (lv_at hl 0 rfl) ?_
        refine lv_ineg hx hb dX2_evenOut_81 ?_
        refine lv_bipush (v := 20) hx hb dX2_evenOut_82 (by decide) ?_
        refine lv_idiv hx hb dX2_evenOut_84 (by decide) ?_
        refine lv_aload hx hb dX2_evenOut_85 (lv_at hl 2 rfl) ?_
        refine x_get (ref := RX1) (C := RX1) (T := TX1) (N := 4) (ci := 1) (v := .ref (g + (6 + 2 * ce))) hx hb hts iX1 hown hK.1 hP (by omega) (by omega) (gw_cell (by omega)) rfl 1 (by decide) (hts (.fieldLink RX2 58 "PoreField$Cell" "fluids" "[I") (by decide +kernel)) (fun _ h9 => h9) rfl dX2_evenOut_87 ?_
        refine x_callv (va_runV (As := [.int ((-((m_pressure M ce) - (m_pressure M (nbd ce b)))) / (20 : Int32)), .ref (g + (6 + 2 * ce))]) (rest := []) ⟨hx, hb, hml, hown, hts⟩ (c_X1_moveOut l D cy lo n w0 g M (by omega) (by omega) (nbd ce b) (by omega) ((-((m_pressure M ce) - (m_pressure M (nbd ce b)))) / (20 : Int32)) (6 + 2 * ce) (gRow_fl (by omega))) (cwV 2 hts gX2_evenOut_X1_moveOut rfl rfl rfl (by decide +kernel) ⟨Nat.le_of_ble_eq_true rfl, Nat.le_of_ble_eq_true rfl⟩) (preV hP hK (x_recv (ci := 1) (q := (RX1, TX1, 4)) hK.1 hP (by omega) (by omega) rfl (gw_cell (by omega)))) rfl rfl hl.1 rfl (lv_room (Nat.le_of_ble_eq_true rfl)) dX2_evenOut_90 ⟨Nat.le_of_ble_eq_true rfl, Nat.le_of_ble_eq_true rfl⟩) hS (fun H locs hP hS => ?_)
        have hG : GI nd (m_moveOut M (nbd ce b) ((-((m_pressure M ce) - (m_pressure M (nbd ce b)))) / (20 : Int32)) (6 + 2 * ce)) := hG.cg (cg_moveOut (by omega))
        exact W.vret hx hb hr (fun tE ht hW => ⟨⟨(), rfl, trivial, x_at ht ((by rw [show m_even b ce M = m_moveOut M (nbd ce b) ((-((m_pressure M ce) - (m_pressure M (nbd ce b)))) / (20 : Int32)) (6 + 2 * ce) from (by simp only [m_even, if_neg c_8, if_pos c_21, if_pos c_56])]; exact hP))⟩, hS.F ht⟩) hS.2.2 dX2_evenOut_93
      · refine lv_aload hx hb dX2_evenOut_59 (lv_at hl 2 rfl) ?_
        refine lv_iload hx hb dX2_evenOut_61 (lv_at hl 0 rfl) ?_
        refine lv_bipush (v := 20) hx hb dX2_evenOut_63 (by decide) ?_
        refine lv_idiv hx hb dX2_evenOut_65 (by decide) ?_
        refine lv_aload hx hb dX2_evenOut_66 (lv_at hl 1 rfl) ?_
        refine x_get (ref := RX1) (C := RX1) (T := TX1) (N := 4) (ci := 1) (v := .ref (g + (6 + 2 * (nbd ce b)))) hx hb hts iX1 hown hK.1 hP (by omega) (by omega) (gw_cell (by omega)) rfl 1 (by decide) (hts (.fieldLink RX2 58 "PoreField$Cell" "fluids" "[I") (by decide +kernel)) (fun _ h9 => h9) rfl dX2_evenOut_68 ?_
        refine x_callv (va_runV (As := [.int (((m_pressure M ce) - (m_pressure M (nbd ce b))) / (20 : Int32)), .ref (g + (6 + 2 * (nbd ce b)))]) (rest := []) ⟨hx, hb, hml, hown, hts⟩ (c_X1_moveOut l D cy lo n w0 g M (by omega) (by omega) ce (by omega) (((m_pressure M ce) - (m_pressure M (nbd ce b))) / (20 : Int32)) (6 + 2 * (nbd ce b)) (gRow_fl (by omega))) (cwV 2 hts gX2_evenOut_X1_moveOut rfl rfl rfl (by decide +kernel) ⟨Nat.le_of_ble_eq_true rfl, Nat.le_of_ble_eq_true rfl⟩) (preV hP hK (x_recv (ci := 1) (q := (RX1, TX1, 4)) hK.1 hP (by omega) (by omega) rfl (gw_cell (by omega)))) rfl rfl hl.1 rfl (lv_room (Nat.le_of_ble_eq_true rfl)) dX2_evenOut_71 ⟨Nat.le_of_ble_eq_true rfl, Nat.le_of_ble_eq_true rfl⟩) hS (fun H locs hP hS => ?_)
        have hG : GI nd (m_moveOut M ce (((m_pressure M ce) - (m_pressure M (nbd ce b))) / (20 : Int32)) (6 + 2 * (nbd ce b))) := hG.cg (cg_moveOut (by omega))
        refine lv_goto (tgt := 93) hx hb dX2_evenOut_74 (by decide) ?_
        exact W.vret hx hb hr (fun tE ht hW => ⟨⟨(), rfl, trivial, x_at ht ((by rw [show m_even b ce M = m_moveOut M ce (((m_pressure M ce) - (m_pressure M (nbd ce b))) / (20 : Int32)) (6 + 2 * (nbd ce b)) from (by simp only [m_even, if_neg c_8, if_pos c_21, if_neg c_56])]; exact hP))⟩, hS.F ht⟩) hS.2.2 dX2_evenOut_93
    · exact W.vret hx hb hr (fun tE ht hW => ⟨⟨(), rfl, trivial, x_at ht ((by rw [show m_even b ce M = M from (by simp only [m_even, if_neg c_8, if_neg c_21])]; exact hP))⟩, hS.F ht⟩) hS.2.2 dX2_evenOut_24

set_option maxRecDepth 100000 in
set_option maxHeartbeats 4000000 in
/-- Ground.passMonth -/
theorem c_X2_passMonth (l : Launch) (D : va_G) (cy : Nat → ClassId) (lo n : Nat) (w0 : Nat → va_E) (g : Nat) (M : Mem) (hg1 : lo ≤ g) (hg2 : g + 49 ≤ lo + n) (nd : Nat) (hG : GI nd M)  : Met l yX2_passMonth wsX2_passMonth ({ frames := 3, cells := 0, slots := 0, locals := 75 }) (PcW D cy lo n (gw cy w0 g M) [.ref g]) (QiW D lo n (gw cy w0 g (m_month nd M)) (m_month nd M 4 0)) 0 0 (fun q : Nat => lo ≤ q) := by
  refine Met.ofW (cc := cX2_passMonth) (maxL := 3) (ret := (some .int)) (by decide) rfl ?_
  intro p e s m args below meth c s₁ B hml hv
  obtain ⟨rfl, hP, hK, hS⟩ := x_entry hv
  have hx := B.exec
  have hb := B.bytes
  have hr := B.returns
  have hts := atoms_spec (ws := wsX2_passMonth) B.pre
  have hown : s.vm.findClass RX2 = some m.cls := findClass_of_methodNamed B.named
  have hlocks := B.notSynchronized
  have iX2 : ∀ w ∈ u_ws RX2 TX2 12, w ∈ wsX2_passMonth := by decide +kernel
  have iX4 : ∀ w ∈ u_ws RX4 TX4 5, w ∈ wsX2_passMonth := by decide +kernel
  have hl := lv_entry ([.ref g]) (n := 3) (Nat.le_of_ble_eq_true rfl)
  rw [lg_entry_eq]
  generalize (lg_sl ([.ref g]) ++ List.replicate (3 - (lg_sl ([.ref g])).length) Slot.unset).toArray = ls at hl ⊢
  have hl : lv_has ls 3 [(0, .ref g)] := hl
  have hG0 := hG
  have hnd := hG.1
  refine lv_aload_n hx hb dX2_passMonth_0 rfl (lv_at hl 0 rfl) ?_
  refine x_callv (va_runV (As := []) (rest := []) ⟨hx, hb, hml, hown, hts⟩ (c_X2_startMonth l D cy lo n w0 g M (by omega) (by omega) nd hG) (cwV 0 hts gX2_passMonth_X2_startMonth rfl rfl rfl (by decide +kernel) ⟨Nat.le_of_ble_eq_true rfl, Nat.le_of_ble_eq_true rfl⟩) (preV hP hK (x_recv (ci := 2) (q := (RX2, TX2, 12)) hK.1 hP (by omega) (by omega) rfl (gw_0))) rfl rfl hl.1 rfl (lv_room (Nat.le_of_ble_eq_true rfl)) dX2_passMonth_1 ⟨Nat.le_of_ble_eq_true rfl, Nat.le_of_ble_eq_true rfl⟩) hS (fun H locs hP hS => ?_)
  have hG : GI nd (m_start nd M) := hG.cg cg_start
  have hG1 := hG
  refine lv_iconst (v := 1) hx hb dX2_passMonth_4 (by decide) ?_
  refine lv_istore_n (lv' := [(1, .int (1 : Int32)), (0, .ref g)]) hx hb dX2_passMonth_5 rfl hl (by decide) rfl (fun ls hl => ?_)
  have hloop6 : ∀ (r_r r : Nat) (H : Heap) (locs : List Loc) (ls : Array Slot), r + r_r = 9 → lv_has ls 3 [(1, .int (nI (r + 1))), (0, .ref g)] → va_P D vwCl (rl lo n (gw cy w0 g (fo (m_rank nd) r (m_start nd M)))) H → va_S (fun q : Nat => lo ≤ q) s.heap H locs → W p l e (headSpec wsX2_passMonth ({ frames := 3, cells := 0, slots := 0, locals := 75 })).room s m (([.ref g] : List Value).toArray) below meth c H locs 0 0 (MQ below (QiW D lo n (gw cy w0 g (m_month nd M)) (m_month nd M 4 0)) (([.ref g] : List Value).toArray) s 0 0 (fun q : Nat => lo ≤ q)) (F0 m 6 ls []) := by
    intro r_r
    induction r_r with
    | zero =>
      intro r H locs ls hk6 hl hP hS
      obtain rfl : r = 9 := by omega
      have hG : GI nd (fo (m_rank nd) 9 (m_start nd M)) := hG1.cg cg_ranks
      refine lv_iload_n hx hb dX2_passMonth_6 rfl (lv_at hl 0 rfl) ?_
      refine lv_bipush (v := 9) hx hb dX2_passMonth_7 (by decide) ?_
      refine lv_icmp_gt (tgt := 69) hx hb dX2_passMonth_9 (by decide) (fun _ => ?_) (fun c => absurd ((br_lt (show (9 : Int32) = nI 9 from rfl) (show (nI (9 + 1)) = nI (9 + 1) from rfl) (by omega) (by omega)).mpr (by omega)) c)
      refine lv_aload_n hx hb dX2_passMonth_69 rfl (lv_at hl 1 rfl) ?_
      refine x_callv (va_runV (As := []) (rest := []) ⟨hx, hb, hml, hown, hts⟩ (c_X2_putGasBack l D cy lo n w0 g (fo (m_rank nd) 9 (m_start nd M)) (by omega) (by omega) nd hG) (cwV 0 hts gX2_passMonth_X2_putGasBack rfl rfl rfl (by decide +kernel) ⟨Nat.le_of_ble_eq_true rfl, Nat.le_of_ble_eq_true rfl⟩) (preV hP hK (x_recv (ci := 2) (q := (RX2, TX2, 12)) hK.1 hP (by omega) (by omega) rfl (gw_0))) rfl rfl hl.1 rfl (lv_room (Nat.le_of_ble_eq_true rfl)) dX2_passMonth_70 ⟨Nat.le_of_ble_eq_true rfl, Nat.le_of_ble_eq_true rfl⟩) hS (fun H locs hP hS => ?_)
      have hG : GI nd (m_gas nd (fo (m_rank nd) 9 (m_start nd M))) := hG.cg cg_gas
      refine lv_aload_n hx hb dX2_passMonth_73 rfl (lv_at hl 1 rfl) ?_
      refine x_callv (va_runV (As := []) (rest := []) ⟨hx, hb, hml, hown, hts⟩ (c_X2_putWaterIn l D cy lo n w0 g (m_gas nd (fo (m_rank nd) 9 (m_start nd M))) (by omega) (by omega) nd hG) (cwV 0 hts gX2_passMonth_X2_putWaterIn rfl rfl rfl (by decide +kernel) ⟨Nat.le_of_ble_eq_true rfl, Nat.le_of_ble_eq_true rfl⟩) (preV hP hK (x_recv (ci := 2) (q := (RX2, TX2, 12)) hK.1 hP (by omega) (by omega) rfl (gw_0))) rfl rfl hl.1 rfl (lv_room (Nat.le_of_ble_eq_true rfl)) dX2_passMonth_74 ⟨Nat.le_of_ble_eq_true rfl, Nat.le_of_ble_eq_true rfl⟩) hS (fun H locs hP hS => ?_)
      have hG : GI nd (m_water nd (m_gas nd (fo (m_rank nd) 9 (m_start nd M)))) := hG.cg cg_water1
      have hG2 := hG
      refine lv_iconst (v := 0) hx hb dX2_passMonth_77 (by decide) ?_
      refine lv_istore_n (lv' := [(1, .int (0 : Int32)), (0, .ref g)]) hx hb dX2_passMonth_78 rfl hl (by decide) rfl (fun ls hl => ?_)
      have hloop79 : ∀ (ci_r ci : Nat) (H : Heap) (locs : List Loc) (ls : Array Slot), ci + ci_r = 16 → lv_has ls 3 [(1, .int (nI ci)), (0, .ref g)] → va_P D vwCl (rl lo n (gw cy w0 g (fo m_evens ci (m_water nd (m_gas nd (fo (m_rank nd) 9 (m_start nd M))))))) H → va_S (fun q : Nat => lo ≤ q) s.heap H locs → W p l e (headSpec wsX2_passMonth ({ frames := 3, cells := 0, slots := 0, locals := 75 })).room s m (([.ref g] : List Value).toArray) below meth c H locs 0 0 (MQ below (QiW D lo n (gw cy w0 g (m_month nd M)) (m_month nd M 4 0)) (([.ref g] : List Value).toArray) s 0 0 (fun q : Nat => lo ≤ q)) (F0 m 79 ls []) := by
        intro ci_r
        induction ci_r with
        | zero =>
          intro ci H locs ls hk79 hl hP hS
          obtain rfl : ci = 16 := by omega
          have hG : GI nd (fo m_evens 16 (m_water nd (m_gas nd (fo (m_rank nd) 9 (m_start nd M))))) := hG2.cg cg_evens
          refine lv_iload_n hx hb dX2_passMonth_79 rfl (lv_at hl 0 rfl) ?_
          refine lv_bipush (v := 16) hx hb dX2_passMonth_80 (by decide) ?_
          refine lv_icmp_ge (tgt := 103) hx hb dX2_passMonth_82 (by decide) (fun _ => ?_) (fun c => absurd ((br_le (show (16 : Int32) = nI 16 from rfl) (show (nI 16) = nI 16 from rfl) (by omega) (by omega)).mpr (by omega)) c)
          refine lv_aload_n hx hb dX2_passMonth_103 rfl (lv_at hl 1 rfl) ?_
          refine x_get (ref := RX2) (C := RX2) (T := TX2) (N := 12) (ci := 2) (v := .ref (g + 4)) hx hb hts iX2 hown hK.1 hP (by omega) (by omega) (gw_0) rfl 7 (by decide) (hts (.fieldLink RX2 34 "PoreField$Ground" "cameUp" "[I") (by decide +kernel)) (fun _ h9 => h9) rfl dX2_passMonth_104 ?_
          refine lv_iconst (v := 0) hx hb dX2_passMonth_107 (by decide) ?_
          refine x_iald hx hb hK.1 hP (by omega) (by omega) 0 (gw_row (gRow_4)) rfl (cl_of_nI (i := 0) rfl (by omega)) (vp_in_of_nI (i := 0) rfl (by omega) (by omega)) dX2_passMonth_108 ?_
          exact W.iret (v := ((fo m_evens 16 (m_water nd (m_gas nd (fo (m_rank nd) 9 (m_start nd M))))) (4) 0)) hx hb hr (fun tE ht hW => ⟨⟨((fo m_evens 16 (m_water nd (m_gas nd (fo (m_rank nd) 9 (m_start nd M))))) (4) 0), (), rfl, rfl, x_at ht (hP)⟩, hS.F ht⟩) hS.2.2 dX2_passMonth_109
        | succ ci_r ih79 =>
          intro ci H locs ls hk79 hl hP hS
          have hG : GI nd (fo m_evens ci (m_water nd (m_gas nd (fo (m_rank nd) 9 (m_start nd M))))) := hG2.cg cg_evens
          refine lv_iload_n hx hb dX2_passMonth_79 rfl (lv_at hl 0 rfl) ?_
          refine lv_bipush (v := 16) hx hb dX2_passMonth_80 (by decide) ?_
          refine lv_icmp_ge (tgt := 103) hx hb dX2_passMonth_82 (by decide) (fun c => absurd ((br_le (show (16 : Int32) = nI 16 from rfl) (show (nI ci) = nI ci from rfl) (by omega) (by omega)).mp c) (by omega)) (fun _ => ?_)
          refine lv_aload_n hx hb dX2_passMonth_85 rfl (lv_at hl 1 rfl) ?_
          refine lv_iload_n hx hb dX2_passMonth_86 rfl (lv_at hl 0 rfl) ?_
          refine lv_iconst (v := 1) hx hb dX2_passMonth_87 (by decide) ?_
          refine x_callv (va_runV (As := [.int (nI ci), .int (1 : Int32)]) (rest := []) ⟨hx, hb, hml, hown, hts⟩ (c_X2_evenOut l D cy lo n w0 g (fo m_evens ci (m_water nd (m_gas nd (fo (m_rank nd) 9 (m_start nd M))))) (by omega) (by omega) nd hG ci (by omega) (1 : Int32)) (cwV 2 hts gX2_passMonth_X2_evenOut rfl rfl rfl (by decide +kernel) ⟨Nat.le_of_ble_eq_true rfl, Nat.le_of_ble_eq_true rfl⟩) (preV hP hK (x_recv (ci := 2) (q := (RX2, TX2, 12)) hK.1 hP (by omega) (by omega) rfl (gw_0))) rfl rfl hl.1 rfl (lv_room (Nat.le_of_ble_eq_true rfl)) dX2_passMonth_88 ⟨Nat.le_of_ble_eq_true rfl, Nat.le_of_ble_eq_true rfl⟩) hS (fun H locs hP hS => ?_)
          have hG : GI nd (m_even (1 : Int32) ci (fo m_evens ci (m_water nd (m_gas nd (fo (m_rank nd) 9 (m_start nd M)))))) := hG.cg cg_even
          refine lv_aload_n hx hb dX2_passMonth_91 rfl (lv_at hl 1 rfl) ?_
          refine lv_iload_n hx hb dX2_passMonth_92 rfl (lv_at hl 0 rfl) ?_
          refine lv_iconst (v := 0) hx hb dX2_passMonth_93 (by decide) ?_
          refine x_callv (va_runV (As := [.int (nI ci), .int (0 : Int32)]) (rest := []) ⟨hx, hb, hml, hown, hts⟩ (c_X2_evenOut l D cy lo n w0 g (m_even (1 : Int32) ci (fo m_evens ci (m_water nd (m_gas nd (fo (m_rank nd) 9 (m_start nd M)))))) (by omega) (by omega) nd hG ci (by omega) (0 : Int32)) (cwV 2 hts gX2_passMonth_X2_evenOut rfl rfl rfl (by decide +kernel) ⟨Nat.le_of_ble_eq_true rfl, Nat.le_of_ble_eq_true rfl⟩) (preV hP hK (x_recv (ci := 2) (q := (RX2, TX2, 12)) hK.1 hP (by omega) (by omega) rfl (gw_0))) rfl rfl hl.1 rfl (lv_room (Nat.le_of_ble_eq_true rfl)) dX2_passMonth_94 ⟨Nat.le_of_ble_eq_true rfl, Nat.le_of_ble_eq_true rfl⟩) hS (fun H locs hP hS => ?_)
          have hG : GI nd (m_even (0 : Int32) ci (m_even (1 : Int32) ci (fo m_evens ci (m_water nd (m_gas nd (fo (m_rank nd) 9 (m_start nd M))))))) := hG.cg cg_even
          refine lv_iinc (v := (nI (ci + 1))) (lv' := [(1, .int (nI (ci + 1))), (0, .ref g)]) hx hb dX2_passMonth_97 hl (k := 0) rfl (nI_1 _) (by decide) rfl (fun ls hl => ?_)
          refine lv_goto (tgt := 79) hx hb dX2_passMonth_100 (by decide) ?_
          exact ih79 (ci + 1) _ _ _ (by omega) (lv_sub hl [0, 1] rfl) (hP) hS
      exact hloop79 16 0 _ _ _ (by omega) (lv_sub hl [0, 1] rfl) (hP) hS
    | succ r_r ih6 =>
      intro r H locs ls hk6 hl hP hS
      have hG : GI nd (fo (m_rank nd) r (m_start nd M)) := hG1.cg cg_ranks
      refine lv_iload_n hx hb dX2_passMonth_6 rfl (lv_at hl 0 rfl) ?_
      refine lv_bipush (v := 9) hx hb dX2_passMonth_7 (by decide) ?_
      refine lv_icmp_gt (tgt := 69) hx hb dX2_passMonth_9 (by decide) (fun c => absurd ((br_lt (show (9 : Int32) = nI 9 from rfl) (show (nI (r + 1)) = nI (r + 1) from rfl) (by omega) (by omega)).mp c) (by omega)) (fun _ => ?_)
      refine lv_iconst (v := 0) hx hb dX2_passMonth_12 (by decide) ?_
      refine lv_istore_n (lv' := [(2, .int (0 : Int32)), (1, .int (nI (r + 1))), (0, .ref g)]) hx hb dX2_passMonth_13 rfl hl (by decide) rfl (fun ls hl => ?_)
      have hloop14 : ∀ (w_r w : Nat) (H : Heap) (locs : List Loc) (ls : Array Slot), w + w_r = nd → lv_has ls 3 [(2, .int (nI w)), (1, .int (nI (r + 1))), (0, .ref g)] → va_P D vwCl (rl lo n (gw cy w0 g (fo (m_rankS r) w (fo (m_rank nd) r (m_start nd M))))) H → va_S (fun q : Nat => lo ≤ q) s.heap H locs → W p l e (headSpec wsX2_passMonth ({ frames := 3, cells := 0, slots := 0, locals := 75 })).room s m (([.ref g] : List Value).toArray) below meth c H locs 0 0 (MQ below (QiW D lo n (gw cy w0 g (m_month nd M)) (m_month nd M 4 0)) (([.ref g] : List Value).toArray) s 0 0 (fun q : Nat => lo ≤ q)) (F0 m 14 ls []) := by
        intro w_r
        induction w_r with
        | zero =>
          intro w H locs ls hk14 hl hP hS
          have ew : w = nd := by omega
          rw [ew] at hP
          rw [ew] at hl
          have hG : GI nd (fo (m_rankS r) nd (fo (m_rank nd) r (m_start nd M))) := (hG1.cg cg_ranks).cg cg_rank1
          refine lv_iload_n hx hb dX2_passMonth_14 rfl (lv_at hl 0 rfl) ?_
          refine lv_aload_n hx hb dX2_passMonth_15 rfl (lv_at hl 2 rfl) ?_
          refine x_get (ref := RX2) (C := RX2) (T := TX2) (N := 12) (ci := 2) (v := .int ((fo (m_rankS r) nd (fo (m_rank nd) r (m_start nd M))) 0 2)) hx hb hts iX2 hown hK.1 hP (by omega) (by omega) (gw_0) rfl 2 (by decide) (hts (.fieldLink RX2 46 "PoreField$Ground" "drilled" "I") (by decide +kernel)) (fun _ h9 => h9) rfl dX2_passMonth_16 ?_
          refine lv_icmp_ge (tgt := 63) hx hb dX2_passMonth_19 (by decide) (fun _ => ?_) (fun c => absurd ((br_le (show ((fo (m_rankS r) nd (fo (m_rank nd) r (m_start nd M))) 0 2) = nI nd from hG.dr) (show (nI nd) = nI nd from rfl) (by omega) (by omega)).mpr (by omega)) c)
          refine lv_iinc (v := (nI ((r + 1) + 1))) (lv' := [(1, .int (nI ((r + 1) + 1))), (2, .int (nI nd)), (0, .ref g)]) hx hb dX2_passMonth_63 hl (k := 1) rfl (nI_1 _) (by decide) rfl (fun ls hl => ?_)
          refine lv_goto (tgt := 6) hx hb dX2_passMonth_66 (by decide) ?_
          exact ih6 (r + 1) _ _ _ (by omega) (lv_sub hl [0, 2] rfl) (hP) hS
        | succ w_r ih14 =>
          intro w H locs ls hk14 hl hP hS
          have hG : GI nd (fo (m_rankS r) w (fo (m_rank nd) r (m_start nd M))) := (hG1.cg cg_ranks).cg cg_rank1
          refine lv_iload_n hx hb dX2_passMonth_14 rfl (lv_at hl 0 rfl) ?_
          refine lv_aload_n hx hb dX2_passMonth_15 rfl (lv_at hl 2 rfl) ?_
          refine x_get (ref := RX2) (C := RX2) (T := TX2) (N := 12) (ci := 2) (v := .int ((fo (m_rankS r) w (fo (m_rank nd) r (m_start nd M))) 0 2)) hx hb hts iX2 hown hK.1 hP (by omega) (by omega) (gw_0) rfl 2 (by decide) (hts (.fieldLink RX2 46 "PoreField$Ground" "drilled" "I") (by decide +kernel)) (fun _ h9 => h9) rfl dX2_passMonth_16 ?_
          refine lv_icmp_ge (tgt := 63) hx hb dX2_passMonth_19 (by decide) (fun c => absurd ((br_le (show ((fo (m_rankS r) w (fo (m_rank nd) r (m_start nd M))) 0 2) = nI nd from hG.dr) (show (nI w) = nI w from rfl) (by omega) (by omega)).mp c) (by omega)) (fun _ => ?_)
          refine lv_aload_n hx hb dX2_passMonth_22 rfl (lv_at hl 2 rfl) ?_
          refine x_get (ref := RX2) (C := RX2) (T := TX2) (N := 12) (ci := 2) (v := .ref (g + 2)) hx hb hts iX2 hown hK.1 hP (by omega) (by omega) (gw_0) rfl 1 (by decide) (hts (.fieldLink RX2 19 "PoreField$Ground" "wells" "[LPoreField$Well;") (by decide +kernel)) (fun _ h9 => h9) rfl dX2_passMonth_23 ?_
          refine lv_iload_n hx hb dX2_passMonth_26 rfl (lv_at hl 0 rfl) ?_
          refine x_aald (b := (g + (37 + 2 * w))) hx hb hK.1 hP (by omega) (by omega) 2 (gw_2) rfl (cl_of_nI (i := w) rfl (by omega)) rfl (vp_in_of_nI (i := w) rfl (by omega) (by omega)) dX2_passMonth_27 ?_
          refine x_get (ref := RX4) (C := RX4) (T := TX4) (N := 5) (ci := 4) (v := .int ((fo (m_rankS r) w (fo (m_rank nd) r (m_start nd M))) (37 + 2 * w) 0)) hx hb hts iX4 hown hK.1 hP (by omega) (by omega) (gw_well (by omega)) rfl 0 (by decide) (hts (.fieldLink RX2 72 "PoreField$Well" "kind" "I") (by decide +kernel)) (fun _ h9 => h9) rfl dX2_passMonth_28 ?_
          refine lv_if_ne (tgt := 57) hx hb dX2_passMonth_31 (by decide) (fun c_31 => ?_) (fun c_31 => ?_)
          · refine lv_iinc (v := (nI (w + 1))) (lv' := [(2, .int (nI (w + 1))), (1, .int (nI (r + 1))), (0, .ref g)]) hx hb dX2_passMonth_57 hl (k := 0) rfl (nI_1 _) (by decide) rfl (fun ls hl => ?_)
            refine lv_goto (tgt := 14) hx hb dX2_passMonth_60 (by decide) ?_
            exact ih14 (w + 1) _ _ _ (by omega) (lv_sub hl [0, 1, 2] rfl) ((by rw [show fo (m_rankS r) (w + 1) (fo (m_rank nd) r (m_start nd M)) = fo (m_rankS r) w (fo (m_rank nd) r (m_start nd M)) from (by simp only [fo, m_rankS, if_neg c_31])]; exact hP)) hS
          · refine lv_aload_n hx hb dX2_passMonth_34 rfl (lv_at hl 2 rfl) ?_
            refine x_get (ref := RX2) (C := RX2) (T := TX2) (N := 12) (ci := 2) (v := .ref (g + 2)) hx hb hts iX2 hown hK.1 hP (by omega) (by omega) (gw_0) rfl 1 (by decide) (hts (.fieldLink RX2 19 "PoreField$Ground" "wells" "[LPoreField$Well;") (by decide +kernel)) (fun _ h9 => h9) rfl dX2_passMonth_35 ?_
            refine lv_iload_n hx hb dX2_passMonth_38 rfl (lv_at hl 0 rfl) ?_
            refine x_aald (b := (g + (37 + 2 * w))) hx hb hK.1 hP (by omega) (by omega) 2 (gw_2) rfl (cl_of_nI (i := w) rfl (by omega)) rfl (vp_in_of_nI (i := w) rfl (by omega) (by omega)) dX2_passMonth_39 ?_
            refine x_get (ref := RX4) (C := RX4) (T := TX4) (N := 5) (ci := 4) (v := .int ((fo (m_rankS r) w (fo (m_rank nd) r (m_start nd M))) (37 + 2 * w) 3)) hx hb hts iX4 hown hK.1 hP (by omega) (by omega) (gw_well (by omega)) rfl 3 (by decide) (hts (.fieldLink RX2 75 "PoreField$Well" "rank" "I") (by decide +kernel)) (fun _ h9 => h9) rfl dX2_passMonth_40 ?_
            refine lv_iload_n hx hb dX2_passMonth_43 rfl (lv_at hl 1 rfl) ?_
            refine lv_icmp_ne (tgt := 57) hx hb dX2_passMonth_44 (by decide) (fun c_44 => ?_) (fun c_44 => ?_)
            · refine lv_iinc (v := (nI (w + 1))) (lv' := [(2, .int (nI (w + 1))), (1, .int (nI (r + 1))), (0, .ref g)]) hx hb dX2_passMonth_57 hl (k := 0) rfl (nI_1 _) (by decide) rfl (fun ls hl => ?_)
              refine lv_goto (tgt := 14) hx hb dX2_passMonth_60 (by decide) ?_
              exact ih14 (w + 1) _ _ _ (by omega) (lv_sub hl [0, 1, 2] rfl) ((by rw [show fo (m_rankS r) (w + 1) (fo (m_rank nd) r (m_start nd M)) = fo (m_rankS r) w (fo (m_rank nd) r (m_start nd M)) from (by simp only [fo, m_rankS, if_pos c_31, if_neg c_44])]; exact hP)) hS
            · refine lv_aload_n hx hb dX2_passMonth_47 rfl (lv_at hl 2 rfl) ?_
              refine lv_aload_n hx hb dX2_passMonth_48 rfl (lv_at hl 2 rfl) ?_
              refine x_get (ref := RX2) (C := RX2) (T := TX2) (N := 12) (ci := 2) (v := .ref (g + 2)) hx hb hts iX2 hown hK.1 hP (by omega) (by omega) (gw_0) rfl 1 (by decide) (hts (.fieldLink RX2 19 "PoreField$Ground" "wells" "[LPoreField$Well;") (by decide +kernel)) (fun _ h9 => h9) rfl dX2_passMonth_49 ?_
              refine lv_iload_n hx hb dX2_passMonth_52 rfl (lv_at hl 0 rfl) ?_
              refine x_aald (b := (g + (37 + 2 * w))) hx hb hK.1 hP (by omega) (by omega) 2 (gw_2) rfl (cl_of_nI (i := w) rfl (by omega)) rfl (vp_in_of_nI (i := w) rfl (by omega) (by omega)) dX2_passMonth_53 ?_
              refine x_callv (va_runV (As := [.ref (g + (37 + 2 * w))]) (rest := []) ⟨hx, hb, hml, hown, hts⟩ (c_X2_produce l D cy lo n w0 g (fo (m_rankS r) w (fo (m_rank nd) r (m_start nd M))) (by omega) (by omega) nd hG w (by omega)) (cwV 1 hts gX2_passMonth_X2_produce rfl rfl rfl (by decide +kernel) ⟨Nat.le_of_ble_eq_true rfl, Nat.le_of_ble_eq_true rfl⟩) (preV hP hK (x_recv (ci := 2) (q := (RX2, TX2, 12)) hK.1 hP (by omega) (by omega) rfl (gw_0))) rfl rfl hl.1 rfl (lv_room (Nat.le_of_ble_eq_true rfl)) dX2_passMonth_54 ⟨Nat.le_of_ble_eq_true rfl, Nat.le_of_ble_eq_true rfl⟩) hS (fun H locs hP hS => ?_)
              have hG : GI nd (m_produce w (fo (m_rankS r) w (fo (m_rank nd) r (m_start nd M)))) := hG.cg cg_produce
              refine lv_iinc (v := (nI (w + 1))) (lv' := [(2, .int (nI (w + 1))), (1, .int (nI (r + 1))), (0, .ref g)]) hx hb dX2_passMonth_57 hl (k := 0) rfl (nI_1 _) (by decide) rfl (fun ls hl => ?_)
              refine lv_goto (tgt := 14) hx hb dX2_passMonth_60 (by decide) ?_
              exact ih14 (w + 1) _ _ _ (by omega) (lv_sub hl [0, 1, 2] rfl) ((by rw [show fo (m_rankS r) (w + 1) (fo (m_rank nd) r (m_start nd M)) = m_produce w (fo (m_rankS r) w (fo (m_rank nd) r (m_start nd M))) from (by simp only [fo, m_rankS, if_pos c_31, if_pos c_44])]; exact hP)) hS
      exact hloop14 nd 0 _ _ _ (by omega) (lv_sub hl [0, 1, 2] rfl) (hP) hS
  exact hloop6 9 0 _ _ _ (by omega) (lv_sub hl [0, 1] rfl) (hP) hS

set_option maxRecDepth 100000 in
set_option maxHeartbeats 4000000 in
/-- Ground.passMonths -/
theorem c_X2_passMonths (l : Launch) (D : va_G) (cy : Nat → ClassId) (lo n : Nat) (w0 : Nat → va_E) (g : Nat) (M : Mem) (hg1 : lo ≤ g) (hg2 : g + 49 ≤ lo + n) (nd : Nat) (hG : GI nd M) (mo : Nat) (hmo : mo < 1000) : Met l yX2_passMonths wsX2_passMonths ({ frames := 4, cells := 0, slots := 0, locals := 97 }) (PcW D cy lo n (gw cy w0 g M) [.ref g, .int (nI mo)]) (QiW D lo n (gw cy w0 g ((m_months nd mo M).2)) ((m_months nd mo M).1)) 0 0 (fun q : Nat => lo ≤ q) := by
  refine Met.ofW (cc := cX2_passMonths) (maxL := 4) (ret := (some .int)) (by decide) rfl ?_
  intro p e s m args below meth c s₁ B hml hv
  obtain ⟨rfl, hP, hK, hS⟩ := x_entry hv
  have hx := B.exec
  have hb := B.bytes
  have hr := B.returns
  have hts := atoms_spec (ws := wsX2_passMonths) B.pre
  have hown : s.vm.findClass RX2 = some m.cls := findClass_of_methodNamed B.named
  have hlocks := B.notSynchronized
  have hl := lv_entry ([.ref g, .int (nI mo)]) (n := 4) (Nat.le_of_ble_eq_true rfl)
  rw [lg_entry_eq]
  generalize (lg_sl ([.ref g, .int (nI mo)]) ++ List.replicate (4 - (lg_sl ([.ref g, .int (nI mo)])).length) Slot.unset).toArray = ls at hl ⊢
  have hl : lv_has ls 4 [(0, .ref g), (1, .int (nI mo))] := hl
  have hG0 := hG
  refine lv_iconst (v := 0) hx hb dX2_passMonths_0 (by decide) ?_
  refine lv_istore_n (lv' := [(2, .int (0 : Int32)), (0, .ref g), (1, .int (nI mo))]) hx hb dX2_passMonths_1 rfl hl (by decide) rfl (fun ls hl => ?_)
  refine lv_iconst (v := 0) hx hb dX2_passMonths_2 (by decide) ?_
  refine lv_istore_n (lv' := [(3, .int (0 : Int32)), (2, .int (0 : Int32)), (0, .ref g), (1, .int (nI mo))]) hx hb dX2_passMonths_3 rfl hl (by decide) rfl (fun ls hl => ?_)
  have hloop4 : ∀ (k_r k : Nat) (H : Heap) (locs : List Loc) (ls : Array Slot), k + k_r = mo → lv_has ls 4 [(3, .int (nI k)), (2, .int ((m_months nd k M).1)), (0, .ref g), (1, .int (nI mo))] → va_P D vwCl (rl lo n (gw cy w0 g ((m_months nd k M).2))) H → va_S (fun q : Nat => lo ≤ q) s.heap H locs → W p l e (headSpec wsX2_passMonths ({ frames := 4, cells := 0, slots := 0, locals := 97 })).room s m (([.ref g, .int (nI mo)] : List Value).toArray) below meth c H locs 0 0 (MQ below (QiW D lo n (gw cy w0 g ((m_months nd mo M).2)) ((m_months nd mo M).1)) (([.ref g, .int (nI mo)] : List Value).toArray) s 0 0 (fun q : Nat => lo ≤ q)) (F0 m 4 ls []) := by
    intro k_r
    induction k_r with
    | zero =>
      intro k H locs ls hk4 hl hP hS
      have ek : k = mo := by omega
      rw [ek] at hP
      rw [ek] at hl
      have hG : GI nd (m_months nd mo M).2 := hG0.cg cg_months
      refine lv_iload_n hx hb dX2_passMonths_4 rfl (lv_at hl 0 rfl) ?_
      refine lv_iload_n hx hb dX2_passMonths_5 rfl (lv_at hl 3 rfl) ?_
      refine lv_icmp_ge (tgt := 22) hx hb dX2_passMonths_6 (by decide) (fun _ => ?_) (fun c => absurd ((br_le (show (nI mo) = nI mo from rfl) (show (nI mo) = nI mo from rfl) (by omega) (by omega)).mpr (by omega)) c)
      refine lv_iload_n hx hb dX2_passMonths_22 rfl (lv_at hl 1 rfl) ?_
      exact W.iret (v := ((m_months nd mo M).1)) hx hb hr (fun tE ht hW => ⟨⟨((m_months nd mo M).1), (), rfl, rfl, x_at ht (hP)⟩, hS.F ht⟩) hS.2.2 dX2_passMonths_23
    | succ k_r ih4 =>
      intro k H locs ls hk4 hl hP hS
      have hG : GI nd (m_months nd k M).2 := hG0.cg cg_months
      refine lv_iload_n hx hb dX2_passMonths_4 rfl (lv_at hl 0 rfl) ?_
      refine lv_iload_n hx hb dX2_passMonths_5 rfl (lv_at hl 3 rfl) ?_
      refine lv_icmp_ge (tgt := 22) hx hb dX2_passMonths_6 (by decide) (fun c => absurd ((br_le (show (nI mo) = nI mo from rfl) (show (nI k) = nI k from rfl) (by omega) (by omega)).mp c) (by omega)) (fun _ => ?_)
      refine lv_iload_n hx hb dX2_passMonths_9 rfl (lv_at hl 1 rfl) ?_
      refine lv_aload_n hx hb dX2_passMonths_10 rfl (lv_at hl 2 rfl) ?_
      refine x_calli (va_runV (As := []) (rest := [.int ((m_months nd k M).1)]) ⟨hx, hb, hml, hown, hts⟩ (c_X2_passMonth l D cy lo n w0 g ((m_months nd k M).2) (by omega) (by omega) nd hG) (cwV 0 hts gX2_passMonths_X2_passMonth rfl rfl rfl (by decide +kernel) ⟨Nat.le_of_ble_eq_true rfl, Nat.le_of_ble_eq_true rfl⟩) (preV hP hK (x_recv (ci := 2) (q := (RX2, TX2, 12)) hK.1 hP (by omega) (by omega) rfl (gw_0))) rfl rfl hl.1 rfl (lv_room (Nat.le_of_ble_eq_true rfl)) dX2_passMonths_11 ⟨Nat.le_of_ble_eq_true rfl, Nat.le_of_ble_eq_true rfl⟩) hS (fun H locs hP hS => ?_)
      refine lv_iadd hx hb dX2_passMonths_14 ?_
      refine lv_istore_n (lv' := [(2, .int (((m_months nd k M).1) + (m_month nd ((m_months nd k M).2) 4 0))), (3, .int (nI k)), (0, .ref g), (1, .int (nI mo))]) hx hb dX2_passMonths_15 rfl hl (by decide) rfl (fun ls hl => ?_)
      refine lv_iinc (v := (nI (k + 1))) (lv' := [(3, .int (nI (k + 1))), (2, .int (((m_months nd k M).1) + (m_month nd ((m_months nd k M).2) 4 0))), (0, .ref g), (1, .int (nI mo))]) hx hb dX2_passMonths_16 hl (k := 1) rfl (nI_1 _) (by decide) rfl (fun ls hl => ?_)
      refine lv_goto (tgt := 4) hx hb dX2_passMonths_19 (by decide) ?_
      have hst1 : (m_months nd (k + 1) M).1 = (((m_months nd k M).1) + (m_month nd ((m_months nd k M).2) 4 0)) := by simp only [months_succ]
      have hst2 : (m_months nd (k + 1) M).2 = m_month nd ((m_months nd k M).2) := by simp only [months_succ]
      have hl : lv_has ls 4 [(3, .int (nI (k + 1))), (2, .int ((m_months nd (k + 1) M).1)), (0, .ref g), (1, .int (nI mo))] := by rw [hst1]; exact hl
      exact ih4 (k + 1) _ _ _ (by omega) (lv_sub hl [0, 1, 2, 3] rfl) ((by rw [hst2]; exact hP)) hS
  exact hloop4 mo 0 _ _ _ (by omega) (lv_sub hl [0, 1, 2, 3] rfl) (hP) hS

set_option maxRecDepth 100000 in
set_option maxHeartbeats 4000000 in
/-- Ground.inAllCells -/
theorem c_X2_inAllCells (l : Launch) (D : va_G) (cy : Nat → ClassId) (lo n : Nat) (w0 : Nat → va_E) (g : Nat) (M : Mem) (hg1 : lo ≤ g) (hg2 : g + 49 ≤ lo + n) (f : Nat) (hf : f < 3) : Met l yX2_inAllCells wsX2_inAllCells ({ frames := 0, cells := 0, slots := 0, locals := 0 }) (PcW D cy lo n (gw cy w0 g M) [.ref g, .int (nI f)]) (QiW D lo n (gw cy w0 g M) (m_inAll M f 16)) 0 0 (fun q : Nat => lo ≤ q) := by
  refine Met.ofW (cc := cX2_inAllCells) (maxL := 4) (ret := (some .int)) (by decide) rfl ?_
  intro p e s m args below meth c s₁ B hml hv
  obtain ⟨rfl, hP, hK, hS⟩ := x_entry hv
  have hx := B.exec
  have hb := B.bytes
  have hr := B.returns
  have hts := atoms_spec (ws := wsX2_inAllCells) B.pre
  have hown : s.vm.findClass RX2 = some m.cls := findClass_of_methodNamed B.named
  have hlocks := B.notSynchronized
  have iX1 : ∀ w ∈ u_ws RX1 TX1 4, w ∈ wsX2_inAllCells := by decide +kernel
  have iX2 : ∀ w ∈ u_ws RX2 TX2 12, w ∈ wsX2_inAllCells := by decide +kernel
  have hl := lv_entry ([.ref g, .int (nI f)]) (n := 4) (Nat.le_of_ble_eq_true rfl)
  rw [lg_entry_eq]
  generalize (lg_sl ([.ref g, .int (nI f)]) ++ List.replicate (4 - (lg_sl ([.ref g, .int (nI f)])).length) Slot.unset).toArray = ls at hl ⊢
  have hl : lv_has ls 4 [(0, .ref g), (1, .int (nI f))] := hl
  refine lv_iconst (v := 0) hx hb dX2_inAllCells_0 (by decide) ?_
  refine lv_istore_n (lv' := [(2, .int (0 : Int32)), (0, .ref g), (1, .int (nI f))]) hx hb dX2_inAllCells_1 rfl hl (by decide) rfl (fun ls hl => ?_)
  refine lv_iconst (v := 0) hx hb dX2_inAllCells_2 (by decide) ?_
  refine lv_istore_n (lv' := [(3, .int (0 : Int32)), (2, .int (0 : Int32)), (0, .ref g), (1, .int (nI f))]) hx hb dX2_inAllCells_3 rfl hl (by decide) rfl (fun ls hl => ?_)
  have hloop4 : ∀ (k_r k : Nat) (H : Heap) (locs : List Loc) (ls : Array Slot), k + k_r = 16 → lv_has ls 4 [(3, .int (nI k)), (2, .int (m_inAll M f k)), (0, .ref g), (1, .int (nI f))] → va_P D vwCl (rl lo n (gw cy w0 g M)) H → va_S (fun q : Nat => lo ≤ q) s.heap H locs → W p l e (headSpec wsX2_inAllCells ({ frames := 0, cells := 0, slots := 0, locals := 0 })).room s m (([.ref g, .int (nI f)] : List Value).toArray) below meth c H locs 0 0 (MQ below (QiW D lo n (gw cy w0 g M) (m_inAll M f 16)) (([.ref g, .int (nI f)] : List Value).toArray) s 0 0 (fun q : Nat => lo ≤ q)) (F0 m 4 ls []) := by
    intro k_r
    induction k_r with
    | zero =>
      intro k H locs ls hk4 hl hP hS
      obtain rfl : k = 16 := by omega
      refine lv_iload_n hx hb dX2_inAllCells_4 rfl (lv_at hl 0 rfl) ?_
      refine lv_bipush (v := 16) hx hb dX2_inAllCells_5 (by decide) ?_
      refine lv_icmp_ge (tgt := 30) hx hb dX2_inAllCells_7 (by decide) (fun _ => ?_) (fun c => absurd ((br_le (show (16 : Int32) = nI 16 from rfl) (show (nI 16) = nI 16 from rfl) (by omega) (by omega)).mpr (by omega)) c)
      refine lv_iload_n hx hb dX2_inAllCells_30 rfl (lv_at hl 1 rfl) ?_
      exact W.iret (v := (m_inAll M f 16)) hx hb hr (fun tE ht hW => ⟨⟨(m_inAll M f 16), (), rfl, rfl, x_at ht (hP)⟩, hS.F ht⟩) hS.2.2 dX2_inAllCells_31
    | succ k_r ih4 =>
      intro k H locs ls hk4 hl hP hS
      refine lv_iload_n hx hb dX2_inAllCells_4 rfl (lv_at hl 0 rfl) ?_
      refine lv_bipush (v := 16) hx hb dX2_inAllCells_5 (by decide) ?_
      refine lv_icmp_ge (tgt := 30) hx hb dX2_inAllCells_7 (by decide) (fun c => absurd ((br_le (show (16 : Int32) = nI 16 from rfl) (show (nI k) = nI k from rfl) (by omega) (by omega)).mp c) (by omega)) (fun _ => ?_)
      refine lv_iload_n hx hb dX2_inAllCells_10 rfl (lv_at hl 1 rfl) ?_
      refine lv_aload_n hx hb dX2_inAllCells_11 rfl (lv_at hl 2 rfl) ?_
      refine x_get (ref := RX2) (C := RX2) (T := TX2) (N := 12) (ci := 2) (v := .ref (g + 1)) hx hb hts iX2 hown hK.1 hP (by omega) (by omega) (gw_0) rfl 0 (by decide) (hts (.fieldLink RX2 11 "PoreField$Ground" "cells" "[LPoreField$Cell;") (by decide +kernel)) (fun _ h9 => h9) rfl dX2_inAllCells_12 ?_
      refine lv_iload_n hx hb dX2_inAllCells_15 rfl (lv_at hl 0 rfl) ?_
      refine x_aald (b := (g + (5 + 2 * k))) hx hb hK.1 hP (by omega) (by omega) 1 (gw_1) rfl (cl_of_nI (i := k) rfl (by omega)) rfl (vp_in_of_nI (i := k) rfl (by omega) (by omega)) dX2_inAllCells_16 ?_
      refine x_get (ref := RX1) (C := RX1) (T := TX1) (N := 4) (ci := 1) (v := .ref (g + (6 + 2 * k))) hx hb hts iX1 hown hK.1 hP (by omega) (by omega) (gw_cell (by omega)) rfl 1 (by decide) (hts (.fieldLink RX2 58 "PoreField$Cell" "fluids" "[I") (by decide +kernel)) (fun _ h9 => h9) rfl dX2_inAllCells_17 ?_
      refine lv_iload_n hx hb dX2_inAllCells_20 rfl (lv_at hl 3 rfl) ?_
      refine x_iald hx hb hK.1 hP (by omega) (by omega) 0 (gw_row (gRow_fl (by omega))) rfl (cl_of_nI (i := f) rfl (by omega)) (vp_in_of_nI (i := f) rfl (by omega) (by omega)) dX2_inAllCells_21 ?_
      refine lv_iadd hx hb dX2_inAllCells_22 ?_
      refine lv_istore_n (lv' := [(2, .int ((m_inAll M f k) + (M (6 + 2 * k) f))), (3, .int (nI k)), (0, .ref g), (1, .int (nI f))]) hx hb dX2_inAllCells_23 rfl hl (by decide) rfl (fun ls hl => ?_)
      refine lv_iinc (v := (nI (k + 1))) (lv' := [(3, .int (nI (k + 1))), (2, .int ((m_inAll M f k) + (M (6 + 2 * k) f))), (0, .ref g), (1, .int (nI f))]) hx hb dX2_inAllCells_24 hl (k := 1) rfl (nI_1 _) (by decide) rfl (fun ls hl => ?_)
      refine lv_goto (tgt := 4) hx hb dX2_inAllCells_27 (by decide) ?_
      exact ih4 (k + 1) _ _ _ (by omega) (lv_sub hl [0, 1, 2, 3] rfl) (hP) hS
  exact hloop4 16 0 _ _ _ (by omega) (lv_sub hl [0, 1, 2, 3] rfl) (hP) hS

set_option maxRecDepth 100000 in
set_option maxHeartbeats 4000000 in
/-- Ground.take -/
theorem c_X2_take (l : Launch) (D : va_G) (cy : Nat → ClassId) (lo n : Nat) (w0 : Nat → va_E) (g : Nat) (M : Mem) (hg1 : lo ≤ g) (hg2 : g + 49 ≤ lo + n) (g2 : Nat) (N : Mem) (hn1 : lo ≤ g2) (hn2 : g2 + 49 ≤ lo + n) (hdis : g2 + 49 ≤ g ∨ g + 49 ≤ g2) (nd : Nat) (hN : GI nd N) : Met l yX2_take wsX2_take ({ frames := 2, cells := 0, slots := 0, locals := 101 }) (PcW D cy lo n (gw cy (gw cy w0 g2 N) g M) [.ref g, .ref g2]) (QvW D lo n (gw cy (gw cy w0 g2 N) g (m_take N M))) 0 0 (fun q : Nat => lo ≤ q) := by
  refine Met.ofW (cc := cX2_take) (maxL := 3) (ret := none) (by decide) rfl ?_
  intro p e s m args below meth c s₁ B hml hv
  obtain ⟨rfl, hP, hK, hS⟩ := x_entry hv
  have hx := B.exec
  have hb := B.bytes
  have hr := B.returns
  have hts := atoms_spec (ws := wsX2_take) B.pre
  have hown : s.vm.findClass RX2 = some m.cls := findClass_of_methodNamed B.named
  have hlocks := B.notSynchronized
  have iX2 : ∀ w ∈ u_ws RX2 TX2 12, w ∈ wsX2_take := by decide +kernel
  have hl := lv_entry ([.ref g, .ref g2]) (n := 3) (Nat.le_of_ble_eq_true rfl)
  rw [lg_entry_eq]
  generalize (lg_sl ([.ref g, .ref g2]) ++ List.replicate (3 - (lg_sl ([.ref g, .ref g2])).length) Slot.unset).toArray = ls at hl ⊢
  have hl : lv_has ls 3 [(0, .ref g), (1, .ref g2)] := hl
  refine lv_iconst (v := 0) hx hb dX2_take_0 (by decide) ?_
  refine lv_istore_n (lv' := [(2, .int (0 : Int32)), (0, .ref g), (1, .ref g2)]) hx hb dX2_take_1 rfl hl (by decide) rfl (fun ls hl => ?_)
  have hloop2 : ∀ (i_r i : Nat) (H : Heap) (locs : List Loc) (ls : Array Slot), i + i_r = 16 → lv_has ls 3 [(2, .int (nI i)), (0, .ref g), (1, .ref g2)] → va_P D vwCl (rl lo n (gw cy (gw cy w0 g2 N) g (fo (fun i M => m_takeC i N M) i M))) H → va_S (fun q : Nat => lo ≤ q) s.heap H locs → W p l e (headSpec wsX2_take ({ frames := 2, cells := 0, slots := 0, locals := 101 })).room s m (([.ref g, .ref g2] : List Value).toArray) below meth c H locs 0 0 (MQ below (QvW D lo n (gw cy (gw cy w0 g2 N) g (m_take N M))) (([.ref g, .ref g2] : List Value).toArray) s 0 0 (fun q : Nat => lo ≤ q)) (F0 m 2 ls []) := by
    intro i_r
    induction i_r with
    | zero =>
      intro i H locs ls hk2 hl hP hS
      obtain rfl : i = 16 := by omega
      refine lv_iload_n hx hb dX2_take_2 rfl (lv_at hl 0 rfl) ?_
      refine lv_bipush (v := 16) hx hb dX2_take_3 (by decide) ?_
      refine lv_icmp_ge (tgt := 29) hx hb dX2_take_5 (by decide) (fun _ => ?_) (fun c => absurd ((br_le (show (16 : Int32) = nI 16 from rfl) (show (nI 16) = nI 16 from rfl) (by omega) (by omega)).mpr (by omega)) c)
      refine lv_iconst (v := 0) hx hb dX2_take_29 (by decide) ?_
      refine lv_istore_n (lv' := [(2, .int (0 : Int32)), (0, .ref g), (1, .ref g2)]) hx hb dX2_take_30 rfl hl (by decide) rfl (fun ls hl => ?_)
      have hloop31 : ∀ (i2_r i2 : Nat) (H : Heap) (locs : List Loc) (ls : Array Slot), i2 + i2_r = 6 → lv_has ls 3 [(2, .int (nI i2)), (0, .ref g), (1, .ref g2)] → va_P D vwCl (rl lo n (gw cy (gw cy w0 g2 N) g (fo (fun i M => m_takeW i N M) i2 (fo (fun i M => m_takeC i N M) 16 M)))) H → va_S (fun q : Nat => lo ≤ q) s.heap H locs → W p l e (headSpec wsX2_take ({ frames := 2, cells := 0, slots := 0, locals := 101 })).room s m (([.ref g, .ref g2] : List Value).toArray) below meth c H locs 0 0 (MQ below (QvW D lo n (gw cy (gw cy w0 g2 N) g (m_take N M))) (([.ref g, .ref g2] : List Value).toArray) s 0 0 (fun q : Nat => lo ≤ q)) (F0 m 31 ls []) := by
        intro i2_r
        induction i2_r with
        | zero =>
          intro i2 H locs ls hk31 hl hP hS
          obtain rfl : i2 = 6 := by omega
          refine lv_iload_n hx hb dX2_take_31 rfl (lv_at hl 0 rfl) ?_
          refine lv_bipush (v := 6) hx hb dX2_take_32 (by decide) ?_
          refine lv_icmp_ge (tgt := 58) hx hb dX2_take_34 (by decide) (fun _ => ?_) (fun c => absurd ((br_le (show (6 : Int32) = nI 6 from rfl) (show (nI 6) = nI 6 from rfl) (by omega) (by omega)).mpr (by omega)) c)
          refine lv_aload_n hx hb dX2_take_58 rfl (lv_at hl 1 rfl) ?_
          refine lv_aload_n hx hb dX2_take_59 rfl (lv_at hl 2 rfl) ?_
          refine x_get (ref := RX2) (C := RX2) (T := TX2) (N := 12) (ci := 2) (v := .int (N 0 2)) hx hb hts iX2 hown hK.1 hP (by omega) (by omega) (((gw_out (by omega)).trans (gw_0))) rfl 2 (by decide) (hts (.fieldLink RX2 46 "PoreField$Ground" "drilled" "I") (by decide +kernel)) (fun _ h9 => h9) rfl dX2_take_60 ?_
          refine x_put (ty := .int) (ref := RX2) (C := RX2) (T := TX2) (N := 12) (ci := 2) (v := .int (N 0 2)) hx hb hts iX2 tyX2 tyX2_ok nmX2 hown hK.1 hP hS (by omega) (by omega) (gw_0) rfl 2 (by decide) (hts (.fieldLink RX2 46 "PoreField$Ground" "drilled" "I") (by decide +kernel)) (fun _ h9 => h9) rfl (by decide +kernel) rfl rfl (Nat.le_of_ble_eq_true rfl) dX2_take_63 (fun H locs hP hS => ?_)
          have hP := gp0 (j := 2) (v := (N 0 2)) hP (rfl)
          refine lv_aload_n hx hb dX2_take_66 rfl (lv_at hl 2 rfl) ?_
          refine x_get (ref := RX2) (C := RX2) (T := TX2) (N := 12) (ci := 2) (v := .ref (g2 + 3)) hx hb hts iX2 hown hK.1 hP (by omega) (by omega) (((gw_out (by omega)).trans (gw_0))) rfl 3 (by decide) (hts (.fieldLink RX2 23 "PoreField$Ground" "capacity" "[I") (by decide +kernel)) (fun _ h9 => h9) rfl dX2_take_67 ?_
          refine lv_iconst (v := 0) hx hb dX2_take_70 (by decide) ?_
          refine lv_aload_n hx hb dX2_take_71 rfl (lv_at hl 1 rfl) ?_
          refine x_get (ref := RX2) (C := RX2) (T := TX2) (N := 12) (ci := 2) (v := .ref (g + 3)) hx hb hts iX2 hown hK.1 hP (by omega) (by omega) (gw_0) rfl 3 (by decide) (hts (.fieldLink RX2 23 "PoreField$Ground" "capacity" "[I") (by decide +kernel)) (fun _ h9 => h9) rfl dX2_take_72 ?_
          refine lv_iconst (v := 0) hx hb dX2_take_75 (by decide) ?_
          refine lv_iconst (v := 3) hx hb dX2_take_76 (by decide) ?_
          refine x_copyi (own := RX2) (k' := 3) hx hb (hml.trans hl.1.symm) hown (hts (.methodLink RX2 49 arraycopyName) (by decide +kernel)) (hts (.native arraycopyName) (by decide +kernel)) (hts (.static arraycopyName) (by decide +kernel)) (hts (.initialized "java/lang/System") (by decide +kernel)) hK.1 hP hS 0 (by omega) (by omega) (by omega) (by omega) (((gw_out (by omega)).trans (gw_row (gRow_3)))) (gw_row (gRow_3)) rfl (by decide) rfl (by omega) (by omega) (Nat.le_of_ble_eq_true rfl) (Nat.le_of_ble_eq_true rfl) dX2_take_77 (fun H locs hP hS => ?_)
          have hP := gpc (k := 3) hP (gRow_3)
          refine lv_aload_n hx hb dX2_take_80 rfl (lv_at hl 1 rfl) ?_
          refine lv_aload_n hx hb dX2_take_81 rfl (lv_at hl 2 rfl) ?_
          refine x_get (ref := RX2) (C := RX2) (T := TX2) (N := 12) (ci := 2) (v := .int (N 0 4)) hx hb hts iX2 hown hK.1 hP (by omega) (by omega) (((gw_out (by omega)).trans (gw_0))) rfl 4 (by decide) (hts (.fieldLink RX2 27 "PoreField$Ground" "permit" "I") (by decide +kernel)) (fun _ h9 => h9) rfl dX2_take_82 ?_
          refine x_put (ty := .int) (ref := RX2) (C := RX2) (T := TX2) (N := 12) (ci := 2) (v := .int (N 0 4)) hx hb hts iX2 tyX2 tyX2_ok nmX2 hown hK.1 hP hS (by omega) (by omega) (gw_0) rfl 4 (by decide) (hts (.fieldLink RX2 27 "PoreField$Ground" "permit" "I") (by decide +kernel)) (fun _ h9 => h9) rfl (by decide +kernel) rfl rfl (Nat.le_of_ble_eq_true rfl) dX2_take_85 (fun H locs hP hS => ?_)
          have hP := gp0 (j := 4) (v := (N 0 4)) hP (rfl)
          refine lv_aload_n hx hb dX2_take_88 rfl (lv_at hl 1 rfl) ?_
          refine lv_aload_n hx hb dX2_take_89 rfl (lv_at hl 2 rfl) ?_
          refine x_get (ref := RX2) (C := RX2) (T := TX2) (N := 12) (ci := 2) (v := .int (N 0 5)) hx hb hts iX2 hown hK.1 hP (by omega) (by omega) (((gw_out (by omega)).trans (gw_0))) rfl 5 (by decide) (hts (.fieldLink RX2 31 "PoreField$Ground" "tankSize" "I") (by decide +kernel)) (fun _ h9 => h9) rfl dX2_take_90 ?_
          refine x_put (ty := .int) (ref := RX2) (C := RX2) (T := TX2) (N := 12) (ci := 2) (v := .int (N 0 5)) hx hb hts iX2 tyX2 tyX2_ok nmX2 hown hK.1 hP hS (by omega) (by omega) (gw_0) rfl 5 (by decide) (hts (.fieldLink RX2 31 "PoreField$Ground" "tankSize" "I") (by decide +kernel)) (fun _ h9 => h9) rfl (by decide +kernel) rfl rfl (Nat.le_of_ble_eq_true rfl) dX2_take_93 (fun H locs hP hS => ?_)
          have hP := gp0 (j := 5) (v := (N 0 5)) hP (rfl)
          refine lv_aload_n hx hb dX2_take_96 rfl (lv_at hl 1 rfl) ?_
          refine lv_aload_n hx hb dX2_take_97 rfl (lv_at hl 2 rfl) ?_
          refine x_get (ref := RX2) (C := RX2) (T := TX2) (N := 12) (ci := 2) (v := .int (N 0 6)) hx hb hts iX2 hown hK.1 hP (by omega) (by omega) (((gw_out (by omega)).trans (gw_0))) rfl 6 (by decide) (hts (.fieldLink RX2 55 "PoreField$Ground" "tankHas" "I") (by decide +kernel)) (fun _ h9 => h9) rfl dX2_take_98 ?_
          refine x_put (ty := .int) (ref := RX2) (C := RX2) (T := TX2) (N := 12) (ci := 2) (v := .int (N 0 6)) hx hb hts iX2 tyX2 tyX2_ok nmX2 hown hK.1 hP hS (by omega) (by omega) (gw_0) rfl 6 (by decide) (hts (.fieldLink RX2 55 "PoreField$Ground" "tankHas" "I") (by decide +kernel)) (fun _ h9 => h9) rfl (by decide +kernel) rfl rfl (Nat.le_of_ble_eq_true rfl) dX2_take_101 (fun H locs hP hS => ?_)
          have hP := gp0 (j := 6) (v := (N 0 6)) hP (rfl)
          exact W.vret hx hb hr (fun tE ht hW => ⟨⟨(), rfl, trivial, x_at ht (hP)⟩, hS.F ht⟩) hS.2.2 dX2_take_104
        | succ i2_r ih31 =>
          intro i2 H locs ls hk31 hl hP hS
          refine lv_iload_n hx hb dX2_take_31 rfl (lv_at hl 0 rfl) ?_
          refine lv_bipush (v := 6) hx hb dX2_take_32 (by decide) ?_
          refine lv_icmp_ge (tgt := 58) hx hb dX2_take_34 (by decide) (fun c => absurd ((br_le (show (6 : Int32) = nI 6 from rfl) (show (nI i2) = nI i2 from rfl) (by omega) (by omega)).mp c) (by omega)) (fun _ => ?_)
          refine lv_aload_n hx hb dX2_take_37 rfl (lv_at hl 1 rfl) ?_
          refine x_get (ref := RX2) (C := RX2) (T := TX2) (N := 12) (ci := 2) (v := .ref (g + 2)) hx hb hts iX2 hown hK.1 hP (by omega) (by omega) (gw_0) rfl 1 (by decide) (hts (.fieldLink RX2 19 "PoreField$Ground" "wells" "[LPoreField$Well;") (by decide +kernel)) (fun _ h9 => h9) rfl dX2_take_38 ?_
          refine lv_iload_n hx hb dX2_take_41 rfl (lv_at hl 0 rfl) ?_
          refine x_aald (b := (g + (37 + 2 * i2))) hx hb hK.1 hP (by omega) (by omega) 2 (gw_2) rfl (cl_of_nI (i := i2) rfl (by omega)) rfl (vp_in_of_nI (i := i2) rfl (by omega) (by omega)) dX2_take_42 ?_
          refine lv_aload_n hx hb dX2_take_43 rfl (lv_at hl 2 rfl) ?_
          refine x_get (ref := RX2) (C := RX2) (T := TX2) (N := 12) (ci := 2) (v := .ref (g2 + 2)) hx hb hts iX2 hown hK.1 hP (by omega) (by omega) (((gw_out (by omega)).trans (gw_0))) rfl 1 (by decide) (hts (.fieldLink RX2 19 "PoreField$Ground" "wells" "[LPoreField$Well;") (by decide +kernel)) (fun _ h9 => h9) rfl dX2_take_44 ?_
          refine lv_iload_n hx hb dX2_take_47 rfl (lv_at hl 0 rfl) ?_
          refine x_aald (b := (g2 + (37 + 2 * i2))) hx hb hK.1 hP (by omega) (by omega) 2 (((gw_out (by omega)).trans (gw_2))) rfl (cl_of_nI (i := i2) rfl (by omega)) rfl (vp_in_of_nI (i := i2) rfl (by omega) (by omega)) dX2_take_48 ?_
          refine x_callv (va_runV (As := [.ref (g2 + (37 + 2 * i2))]) (rest := []) ⟨hx, hb, hml, hown, hts⟩ (c_X4_take l D cy lo n w0 g (fo (fun i M => m_takeW i N M) i2 (fo (fun i M => m_takeC i N M) 16 M)) (by omega) (by omega) g2 N (by omega) (by omega) (by omega) i2 (by omega)) (cwV 1 hts gX2_take_X4_take rfl rfl rfl (by decide +kernel) ⟨Nat.le_of_ble_eq_true rfl, Nat.le_of_ble_eq_true rfl⟩) (preV hP hK (x_recv (ci := 4) (q := (RX4, TX4, 5)) hK.1 hP (by omega) (by omega) rfl (gw_well (by omega)))) rfl rfl hl.1 rfl (lv_room (Nat.le_of_ble_eq_true rfl)) dX2_take_49 ⟨Nat.le_of_ble_eq_true rfl, Nat.le_of_ble_eq_true rfl⟩) hS (fun H locs hP hS => ?_)
          refine lv_iinc (v := (nI (i2 + 1))) (lv' := [(2, .int (nI (i2 + 1))), (0, .ref g), (1, .ref g2)]) hx hb dX2_take_52 hl (k := 0) rfl (nI_1 _) (by decide) rfl (fun ls hl => ?_)
          refine lv_goto (tgt := 31) hx hb dX2_take_55 (by decide) ?_
          exact ih31 (i2 + 1) _ _ _ (by omega) (lv_sub hl [0, 1, 2] rfl) (hP) hS
      exact hloop31 6 0 _ _ _ (by omega) (lv_sub hl [0, 1, 2] rfl) (hP) hS
    | succ i_r ih2 =>
      intro i H locs ls hk2 hl hP hS
      refine lv_iload_n hx hb dX2_take_2 rfl (lv_at hl 0 rfl) ?_
      refine lv_bipush (v := 16) hx hb dX2_take_3 (by decide) ?_
      refine lv_icmp_ge (tgt := 29) hx hb dX2_take_5 (by decide) (fun c => absurd ((br_le (show (16 : Int32) = nI 16 from rfl) (show (nI i) = nI i from rfl) (by omega) (by omega)).mp c) (by omega)) (fun _ => ?_)
      refine lv_aload_n hx hb dX2_take_8 rfl (lv_at hl 1 rfl) ?_
      refine x_get (ref := RX2) (C := RX2) (T := TX2) (N := 12) (ci := 2) (v := .ref (g + 1)) hx hb hts iX2 hown hK.1 hP (by omega) (by omega) (gw_0) rfl 0 (by decide) (hts (.fieldLink RX2 11 "PoreField$Ground" "cells" "[LPoreField$Cell;") (by decide +kernel)) (fun _ h9 => h9) rfl dX2_take_9 ?_
      refine lv_iload_n hx hb dX2_take_12 rfl (lv_at hl 0 rfl) ?_
      refine x_aald (b := (g + (5 + 2 * i))) hx hb hK.1 hP (by omega) (by omega) 1 (gw_1) rfl (cl_of_nI (i := i) rfl (by omega)) rfl (vp_in_of_nI (i := i) rfl (by omega) (by omega)) dX2_take_13 ?_
      refine lv_aload_n hx hb dX2_take_14 rfl (lv_at hl 2 rfl) ?_
      refine x_get (ref := RX2) (C := RX2) (T := TX2) (N := 12) (ci := 2) (v := .ref (g2 + 1)) hx hb hts iX2 hown hK.1 hP (by omega) (by omega) (((gw_out (by omega)).trans (gw_0))) rfl 0 (by decide) (hts (.fieldLink RX2 11 "PoreField$Ground" "cells" "[LPoreField$Cell;") (by decide +kernel)) (fun _ h9 => h9) rfl dX2_take_15 ?_
      refine lv_iload_n hx hb dX2_take_18 rfl (lv_at hl 0 rfl) ?_
      refine x_aald (b := (g2 + (5 + 2 * i))) hx hb hK.1 hP (by omega) (by omega) 1 (((gw_out (by omega)).trans (gw_1))) rfl (cl_of_nI (i := i) rfl (by omega)) rfl (vp_in_of_nI (i := i) rfl (by omega) (by omega)) dX2_take_19 ?_
      refine x_callv (va_runV (As := [.ref (g2 + (5 + 2 * i))]) (rest := []) ⟨hx, hb, hml, hown, hts⟩ (c_X1_take l D cy lo n w0 g (fo (fun i M => m_takeC i N M) i M) (by omega) (by omega) g2 N (by omega) (by omega) (by omega) i (by omega) (hN.sh (by omega))) (cwV 1 hts gX2_take_X1_take rfl rfl rfl (by decide +kernel) ⟨Nat.le_of_ble_eq_true rfl, Nat.le_of_ble_eq_true rfl⟩) (preV hP hK (x_recv (ci := 1) (q := (RX1, TX1, 4)) hK.1 hP (by omega) (by omega) rfl (gw_cell (by omega)))) rfl rfl hl.1 rfl (lv_room (Nat.le_of_ble_eq_true rfl)) dX2_take_20 ⟨Nat.le_of_ble_eq_true rfl, Nat.le_of_ble_eq_true rfl⟩) hS (fun H locs hP hS => ?_)
      refine lv_iinc (v := (nI (i + 1))) (lv' := [(2, .int (nI (i + 1))), (0, .ref g), (1, .ref g2)]) hx hb dX2_take_23 hl (k := 0) rfl (nI_1 _) (by decide) rfl (fun ls hl => ?_)
      refine lv_goto (tgt := 2) hx hb dX2_take_26 (by decide) ?_
      exact ih2 (i + 1) _ _ _ (by omega) (lv_sub hl [0, 1, 2] rfl) (hP) hS
  exact hloop2 16 0 _ _ _ (by omega) (lv_sub hl [0, 1, 2] rfl) (hP) hS
