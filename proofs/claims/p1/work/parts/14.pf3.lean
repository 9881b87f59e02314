set_option maxRecDepth 100000 in
set_option maxHeartbeats 4000000 in
/-- Ground.faults -/
theorem c_X2_faults (l : Launch) (D : va_G) (cy : Nat → ClassId) (lo n : Nat) (w0 : Nat → va_E) (g : Nat) (M : Mem) (hg1 : lo ≤ g) (hg2 : g + 49 ≤ lo + n) (nd : Nat) (hG : GI nd M)  : Met l yX2_faults wsX2_faults ({ frames := 1, cells := 0, slots := 0, locals := 21 }) (PcW D cy lo n (gw cy w0 g M) [.ref g]) (QiW D lo n (gw cy w0 g M) (m_faults M 16)) 0 0 (fun q : Nat => lo ≤ q) := by
  refine Met.ofW (cc := cX2_faults) (maxL := 3) (ret := (some .int)) (by decide) rfl ?_
  intro p e s m args below meth c s₁ B hml hv
  obtain ⟨rfl, hP, hK, hS⟩ := x_entry hv
  have hx := B.exec
  have hb := B.bytes
  have hr := B.returns
  have hts := atoms_spec (ws := wsX2_faults) B.pre
  have hown : s.vm.findClass RX2 = some m.cls := findClass_of_methodNamed B.named
  have hlocks := B.notSynchronized
  have iX2 : ∀ w ∈ u_ws RX2 TX2 12, w ∈ wsX2_faults := by decide +kernel
  have hl := lv_entry ([.ref g]) (n := 3) (Nat.le_of_ble_eq_true rfl)
  rw [lg_entry_eq]
  generalize (lg_sl ([.ref g]) ++ List.replicate (3 - (lg_sl ([.ref g])).length) Slot.unset).toArray = ls at hl ⊢
  have hl : lv_has ls 3 [(0, .ref g)] := hl
  refine lv_iconst (v := 0) hx hb dX2_faults_0 (by decide) ?_
  refine lv_istore_n (lv' := [(1, .int (0 : Int32)), (0, .ref g)]) hx hb dX2_faults_1 rfl hl (by decide) rfl (fun ls hl => ?_)
  refine lv_iconst (v := 0) hx hb dX2_faults_2 (by decide) ?_
  refine lv_istore_n (lv' := [(2, .int (0 : Int32)), (1, .int (0 : Int32)), (0, .ref g)]) hx hb dX2_faults_3 rfl hl (by decide) rfl (fun ls hl => ?_)
  have hloop4 : ∀ (ci_r ci : Nat) (H : Heap) (locs : List Loc) (ls : Array Slot), ci + ci_r = 16 → lv_has ls 3 [(2, .int (nI ci)), (1, .int (m_faults M ci)), (0, .ref g)] → va_P D vwCl (rl lo n (gw cy w0 g M)) H → va_S (fun q : Nat => lo ≤ q) s.heap H locs → W p l e (headSpec wsX2_faults ({ frames := 1, cells := 0, slots := 0, locals := 21 })).room s m (([.ref g] : List Value).toArray) below meth c H locs 0 0 (MQ below (QiW D lo n (gw cy w0 g M) (m_faults M 16)) (([.ref g] : List Value).toArray) s 0 0 (fun q : Nat => lo ≤ q)) (F0 m 4 ls []) := by
    intro ci_r
    induction ci_r with
    | zero =>
      intro ci H locs ls hk4 hl hP hS
      obtain rfl : ci = 16 := by omega
      refine lv_iload_n hx hb dX2_faults_4 rfl (lv_at hl 0 rfl) ?_
      refine lv_bipush (v := 16) hx hb dX2_faults_5 (by decide) ?_
      refine lv_icmp_ge (tgt := 58) hx hb dX2_faults_7 (by decide) (fun _ => ?_) (fun c => absurd ((br_le (show (16 : Int32) = nI 16 from rfl) (show (nI 16) = nI 16 from rfl) (by omega) (by omega)).mpr (by omega)) c)
      refine lv_iload_n hx hb dX2_faults_58 rfl (lv_at hl 1 rfl) ?_
      exact W.iret (v := (m_faults M 16)) hx hb hr (fun tE ht hW => ⟨⟨(m_faults M 16), (), rfl, rfl, x_at ht (hP)⟩, hS.F ht⟩) hS.2.2 dX2_faults_59
    | succ ci_r ih4 =>
      intro ci H locs ls hk4 hl hP hS
      refine lv_iload_n hx hb dX2_faults_4 rfl (lv_at hl 0 rfl) ?_
      refine lv_bipush (v := 16) hx hb dX2_faults_5 (by decide) ?_
      refine lv_icmp_ge (tgt := 58) hx hb dX2_faults_7 (by decide) (fun c => absurd ((br_le (show (16 : Int32) = nI 16 from rfl) (show (nI ci) = nI ci from rfl) (by omega) (by omega)).mp c) (by omega)) (fun _ => ?_)
      refine lv_iload_n hx hb dX2_faults_10 rfl (lv_at hl 1 rfl) ?_
      refine lv_aload_n hx hb dX2_faults_11 rfl (lv_at hl 2 rfl) ?_
      refine x_get (ref := RX2) (C := RX2) (T := TX2) (N := 12) (ci := 2) (v := .ref (g + 1)) hx hb hts iX2 hown hK.1 hP (by omega) (by omega) (gw_0) rfl 0 (by decide) (hts (.fieldLink RX2 11 "PoreField$Ground" "cells" "[LPoreField$Cell;") (by decide +kernel)) (fun _ h9 => h9) rfl dX2_faults_12 ?_
      refine lv_iload_n hx hb dX2_faults_15 rfl (lv_at hl 0 rfl) ?_
      refine x_aald (b := (g + (5 + 2 * ci))) hx hb hK.1 hP (by omega) (by omega) 1 (gw_1) rfl (cl_of_nI (i := ci) rfl (by omega)) rfl (vp_in_of_nI (i := ci) rfl (by omega) (by omega)) dX2_faults_16 ?_
      refine lv_iconst (v := 1) hx hb dX2_faults_17 (by decide) ?_
      refine x_calli (va_runV (As := [.int (1 : Int32)]) (rest := [.int (m_faults M ci)]) ⟨hx, hb, hml, hown, hts⟩ (c_X1_isShut l D cy lo n w0 g M (by omega) (by omega) ci (by omega) (1 : Int32) (hG.sh (by omega))) (cwV 1 hts gX2_faults_X1_isShut rfl rfl rfl (by decide +kernel) ⟨Nat.le_of_ble_eq_true rfl, Nat.le_of_ble_eq_true rfl⟩) (preV hP hK (x_recv (ci := 1) (q := (RX1, TX1, 4)) hK.1 hP (by omega) (by omega) rfl (gw_cell (by omega)))) rfl rfl hl.1 rfl (lv_room (Nat.le_of_ble_eq_true rfl)) dX2_faults_18 ⟨Nat.le_of_ble_eq_true rfl, Nat.le_of_ble_eq_true rfl⟩) hS (fun H locs hP hS => ?_)
      refine lv_if_eq (tgt := 28) hx hb dX2_faults_21 (by decide) (fun c_21 => ?_) (fun c_21 => ?_)
      · refine lv_iconst (v := 0) hx hb dX2_faults_28 (by decide) ?_
        refine lv_iadd hx hb dX2_faults_29 ?_
        refine lv_istore_n (lv' := [(1, .int ((m_faults M ci) + (0 : Int32))), (2, .int (nI ci)), (0, .ref g)]) hx hb dX2_faults_30 rfl hl (by decide) rfl (fun ls hl => ?_)
        refine lv_iload_n hx hb dX2_faults_31 rfl (lv_at hl 0 rfl) ?_
        refine lv_aload_n hx hb dX2_faults_32 rfl (lv_at hl 2 rfl) ?_
        refine x_get (ref := RX2) (C := RX2) (T := TX2) (N := 12) (ci := 2) (v := .ref (g + 1)) hx hb hts iX2 hown hK.1 hP (by omega) (by omega) (gw_0) rfl 0 (by decide) (hts (.fieldLink RX2 11 "PoreField$Ground" "cells" "[LPoreField$Cell;") (by decide +kernel)) (fun _ h9 => h9) rfl dX2_faults_33 ?_
        refine lv_iload_n hx hb dX2_faults_36 rfl (lv_at hl 1 rfl) ?_
        refine x_aald (b := (g + (5 + 2 * ci))) hx hb hK.1 hP (by omega) (by omega) 1 (gw_1) rfl (cl_of_nI (i := ci) rfl (by omega)) rfl (vp_in_of_nI (i := ci) rfl (by omega) (by omega)) dX2_faults_37 ?_
        refine lv_iconst (v := 0) hx hb dX2_faults_38 (by decide) ?_
        refine x_calli (va_runV (As := [.int (0 : Int32)]) (rest := [.int ((m_faults M ci) + (0 : Int32))]) ⟨hx, hb, hml, hown, hts⟩ (c_X1_isShut l D cy lo n w0 g M (by omega) (by omega) ci (by omega) (0 : Int32) (hG.sh (by omega))) (cwV 1 hts gX2_faults_X1_isShut rfl rfl rfl (by decide +kernel) ⟨Nat.le_of_ble_eq_true rfl, Nat.le_of_ble_eq_true rfl⟩) (preV hP hK (x_recv (ci := 1) (q := (RX1, TX1, 4)) hK.1 hP (by omega) (by omega) rfl (gw_cell (by omega)))) rfl rfl hl.1 rfl (lv_room (Nat.le_of_ble_eq_true rfl)) dX2_faults_39 ⟨Nat.le_of_ble_eq_true rfl, Nat.le_of_ble_eq_true rfl⟩) hS (fun H locs hP hS => ?_)
        refine lv_if_eq (tgt := 49) hx hb dX2_faults_42 (by decide) (fun c_42 => ?_) (fun c_42 => ?_)
        · refine lv_iconst (v := 0) hx hb dX2_faults_49 (by decide) ?_
          refine lv_iadd hx hb dX2_faults_50 ?_
          refine lv_istore_n (lv' := [(1, .int (((m_faults M ci) + (0 : Int32)) + (0 : Int32))), (2, .int (nI ci)), (0, .ref g)]) hx hb dX2_faults_51 rfl hl (by decide) rfl (fun ls hl => ?_)
          refine lv_iinc (v := (nI (ci + 1))) (lv' := [(2, .int (nI (ci + 1))), (1, .int (((m_faults M ci) + (0 : Int32)) + (0 : Int32))), (0, .ref g)]) hx hb dX2_faults_52 hl (k := 1) rfl (nI_1 _) (by decide) rfl (fun ls hl => ?_)
          refine lv_goto (tgt := 4) hx hb dX2_faults_55 (by decide) ?_
          have hst1 : m_faults M (ci + 1) = (((m_faults M ci) + (0 : Int32)) + (0 : Int32)) := by simp only [m_faults, fo_s, m_faultsS, if_pos c_21, if_pos c_42]
          have hl : lv_has ls 3 [(2, .int (nI (ci + 1))), (1, .int (m_faults M (ci + 1))), (0, .ref g)] := by rw [hst1]; exact hl
          exact ih4 (ci + 1) _ _ _ (by omega) (lv_sub hl [0, 1, 2] rfl) (hP) hS
        · refine lv_iconst (v := 1) hx hb dX2_faults_45 (by decide) ?_
          refine lv_goto (tgt := 50) hx hb dX2_faults_46 (by decide) ?_
          refine lv_iadd hx hb dX2_faults_50 ?_
          refine lv_istore_n (lv' := [(1, .int (((m_faults M ci) + (0 : Int32)) + (1 : Int32))), (2, .int (nI ci)), (0, .ref g)]) hx hb dX2_faults_51 rfl hl (by decide) rfl (fun ls hl => ?_)
          refine lv_iinc (v := (nI (ci + 1))) (lv' := [(2, .int (nI (ci + 1))), (1, .int (((m_faults M ci) + (0 : Int32)) + (1 : Int32))), (0, .ref g)]) hx hb dX2_faults_52 hl (k := 1) rfl (nI_1 _) (by decide) rfl (fun ls hl => ?_)
          refine lv_goto (tgt := 4) hx hb dX2_faults_55 (by decide) ?_
          have hst1 : m_faults M (ci + 1) = (((m_faults M ci) + (0 : Int32)) + (1 : Int32)) := by simp only [m_faults, fo_s, m_faultsS, if_pos c_21, if_neg c_42]
          have hl : lv_has ls 3 [(2, .int (nI (ci + 1))), (1, .int (m_faults M (ci + 1))), (0, .ref g)] := by rw [hst1]; exact hl
          exact ih4 (ci + 1) _ _ _ (by omega) (lv_sub hl [0, 1, 2] rfl) (hP) hS
      · refine lv_iconst (v := 1) hx hb dX2_faults_24 (by decide) ?_
        refine lv_goto (tgt := 29) hx hb dX2_faults_25 (by decide) ?_
        refine lv_iadd hx hb dX2_faults_29 ?_
        refine lv_istore_n (lv' := [(1, .int ((m_faults M ci) + (1 : Int32))), (2, .int (nI ci)), (0, .ref g)]) hx hb dX2_faults_30 rfl hl (by decide) rfl (fun ls hl => ?_)
        refine lv_iload_n hx hb dX2_faults_31 rfl (lv_at hl 0 rfl) ?_
        refine lv_aload_n hx hb dX2_faults_32 rfl (lv_at hl 2 rfl) ?_
        refine x_get (ref := RX2) (C := RX2) (T := TX2) (N := 12) (ci := 2) (v := .ref (g + 1)) hx hb hts iX2 hown hK.1 hP (by omega) (by omega) (gw_0) rfl 0 (by decide) (hts (.fieldLink RX2 11 "PoreField$Ground" "cells" "[LPoreField$Cell;") (by decide +kernel)) (fun _ h9 => h9) rfl dX2_faults_33 ?_
        refine lv_iload_n hx hb dX2_faults_36 rfl (lv_at hl 1 rfl) ?_
        refine x_aald (b := (g + (5 + 2 * ci))) hx hb hK.1 hP (by omega) (by omega) 1 (gw_1) rfl (cl_of_nI (i := ci) rfl (by omega)) rfl (vp_in_of_nI (i := ci) rfl (by omega) (by omega)) dX2_faults_37 ?_
        refine lv_iconst (v := 0) hx hb dX2_faults_38 (by decide) ?_
        refine x_calli (va_runV (As := [.int (0 : Int32)]) (rest := [.int ((m_faults M ci) + (1 : Int32))]) ⟨hx, hb, hml, hown, hts⟩ (c_X1_isShut l D cy lo n w0 g M (by omega) (by omega) ci (by omega) (0 : Int32) (hG.sh (by omega))) (cwV 1 hts gX2_faults_X1_isShut rfl rfl rfl (by decide +kernel) ⟨Nat.le_of_ble_eq_true rfl, Nat.le_of_ble_eq_true rfl⟩) (preV hP hK (x_recv (ci := 1) (q := (RX1, TX1, 4)) hK.1 hP (by omega) (by omega) rfl (gw_cell (by omega)))) rfl rfl hl.1 rfl (lv_room (Nat.le_of_ble_eq_true rfl)) dX2_faults_39 ⟨Nat.le_of_ble_eq_true rfl, Nat.le_of_ble_eq_true rfl⟩) hS (fun H locs hP hS => ?_)
        refine lv_if_eq (tgt := 49) hx hb dX2_faults_42 (by decide) (fun c_42 => ?_) (fun c_42 => ?_)
        · refine lv_iconst (v := 0) hx hb dX2_faults_49 (by decide) ?_
          refine lv_iadd hx hb dX2_faults_50 ?_
          refine lv_istore_n (lv' := [(1, .int (((m_faults M ci) + (1 : Int32)) + (0 : Int32))), (2, .int (nI ci)), (0, .ref g)]) hx hb dX2_faults_51 rfl hl (by decide) rfl (fun ls hl => ?_)
          refine lv_iinc (v := (nI (ci + 1))) (lv' := [(2, .int (nI (ci + 1))), (1, .int (((m_faults M ci) + (1 : Int32)) + (0 : Int32))), (0, .ref g)]) hx hb dX2_faults_52 hl (k := 1) rfl (nI_1 _) (by decide) rfl (fun ls hl => ?_)
          refine lv_goto (tgt := 4) hx hb dX2_faults_55 (by decide) ?_
          have hst1 : m_faults M (ci + 1) = (((m_faults M ci) + (1 : Int32)) + (0 : Int32)) := by simp only [m_faults, fo_s, m_faultsS, if_neg c_21, if_pos c_42]
          have hl : lv_has ls 3 [(2, .int (nI (ci + 1))), (1, .int (m_faults M (ci + 1))), (0, .ref g)] := by rw [hst1]; exact hl
          exact ih4 (ci + 1) _ _ _ (by omega) (lv_sub hl [0, 1, 2] rfl) (hP) hS
        · refine lv_iconst (v := 1) hx hb dX2_faults_45 (by decide) ?_
          refine lv_goto (tgt := 50) hx hb dX2_faults_46 (by decide) ?_
          refine lv_iadd hx hb dX2_faults_50 ?_
          refine lv_istore_n (lv' := [(1, .int (((m_faults M ci) + (1 : Int32)) + (1 : Int32))), (2, .int (nI ci)), (0, .ref g)]) hx hb dX2_faults_51 rfl hl (by decide) rfl (fun ls hl => ?_)
          refine lv_iinc (v := (nI (ci + 1))) (lv' := [(2, .int (nI (ci + 1))), (1, .int (((m_faults M ci) + (1 : Int32)) + (1 : Int32))), (0, .ref g)]) hx hb dX2_faults_52 hl (k := 1) rfl (nI_1 _) (by decide) rfl (fun ls hl => ?_)
          refine lv_goto (tgt := 4) hx hb dX2_faults_55 (by decide) ?_
          have hst1 : m_faults M (ci + 1) = (((m_faults M ci) + (1 : Int32)) + (1 : Int32)) := by simp only [m_faults, fo_s, m_faultsS, if_neg c_21, if_neg c_42]
          have hl : lv_has ls 3 [(2, .int (nI (ci + 1))), (1, .int (m_faults M (ci + 1))), (0, .ref g)] := by rw [hst1]; exact hl
          exact ih4 (ci + 1) _ _ _ (by omega) (lv_sub hl [0, 1, 2] rfl) (hP) hS
  exact hloop4 16 0 _ _ _ (by omega) (lv_sub hl [0, 1, 2] rfl) (hP) hS

set_option maxRecDepth 100000 in
set_option maxHeartbeats 4000000 in
/-- ofCell, 0 -/
theorem c_X6_ofCell_0 (l : Launch) (D : va_G) (cy : Nat → ClassId) (lo n : Nat) (w0 : Nat → va_E) (o : Nat) (G T P : Mem) (ho1 : lo ≤ o) (ho2 : o + 118 ≤ lo + n) (nd : Nat) (hG : GI nd G) (ce : Nat) (hc : ce < 16)  : Met l yX6_ofCell wsX6_ofCell ({ frames := 2, cells := 0, slots := 0, locals := 40 }) (PcW D cy lo n (gw cy (gw cy (hw cy w0 o P) (o + 50) T) (o + 1) G) [.ref o, .int (nI ce), .int (0 : Int32)]) (QiW D lo n (gw cy (gw cy (hw cy w0 o P) (o + 50) T) (o + 1) G) (m_ofCell G ce 0)) 0 0 (fun q : Nat => lo ≤ q) := by
  refine Met.ofW (cc := cX6_ofCell) (maxL := 4) (ret := (some .int)) (by decide) rfl ?_
  intro p e s m args below meth c s₁ B hml hv
  obtain ⟨rfl, hP, hK, hS⟩ := x_entry hv
  have hx := B.exec
  have hb := B.bytes
  have hr := B.returns
  have hts := atoms_spec (ws := wsX6_ofCell) B.pre
  have hown : s.vm.findClass RX6 = some m.cls := findClass_of_methodNamed B.named
  have hlocks := B.notSynchronized
  have iX1 : ∀ w ∈ u_ws RX1 TX1 4, w ∈ wsX6_ofCell := by decide +kernel
  have iX2 : ∀ w ∈ u_ws RX2 TX2 12, w ∈ wsX6_ofCell := by decide +kernel
  have iX6 : ∀ w ∈ u_ws RX6 TX6 11, w ∈ wsX6_ofCell := by decide +kernel
  have hl := lv_entry ([.ref o, .int (nI ce), .int (0 : Int32)]) (n := 4) (Nat.le_of_ble_eq_true rfl)
  rw [lg_entry_eq]
  generalize (lg_sl ([.ref o, .int (nI ce), .int (0 : Int32)]) ++ List.replicate (4 - (lg_sl ([.ref o, .int (nI ce), .int (0 : Int32)])).length) Slot.unset).toArray = ls at hl ⊢
  have hl : lv_has ls 4 [(0, .ref o), (1, .int (nI ce)), (2, .int (0 : Int32))] := hl
  refine lv_iload_n hx hb dX6_ofCell_0 rfl (lv_at hl 1 rfl) ?_
  refine lv_bipush (v := 16) hx hb dX6_ofCell_1 (by decide) ?_
  refine x_callv (va_runS (As := [.int (nI ce), .int (16 : Int32)]) (rest := []) ⟨hx, hb, hml, hown, hts⟩ (c_X6_needIndex l D cy lo n (gw cy (gw cy (hw cy w0 o P) (o + 50) T) (o + 1) G) ce 16 (by omega) (by omega) (nI ce) (16 : Int32) rfl rfl) (va_cwS 2 hts gX6_ofCell_X6_needIndex rfl rfl rfl (by decide +kernel) ⟨Nat.le_of_ble_eq_true rfl, Nat.le_of_ble_eq_true rfl⟩) (preS hP hK) rfl rfl hl.1 rfl (lv_room (Nat.le_of_ble_eq_true rfl)) dX6_ofCell_3 ⟨Nat.le_of_ble_eq_true rfl, Nat.le_of_ble_eq_true rfl⟩) hS (fun H locs hP hS => ?_)
  refine lv_iload_n hx hb dX6_ofCell_6 rfl (lv_at hl 2 rfl) ?_
  refine lv_iconst (v := 0) hx hb dX6_ofCell_7 (by decide) ?_
  refine lv_iconst (v := 4) hx hb dX6_ofCell_8 (by decide) ?_
  refine x_callv (va_runS (As := [.int (0 : Int32), .int (0 : Int32), .int (4 : Int32)]) (rest := []) ⟨hx, hb, hml, hown, hts⟩ (c_X6_needWithin l D cy lo n (gw cy (gw cy (hw cy w0 o P) (o + 50) T) (o + 1) G) (0 : Int32) (0 : Int32) (4 : Int32) ((br_le (show (0 : Int32) = nI 0 from rfl) (show (0 : Int32) = nI 0 from rfl) (by omega) (by omega)).mpr (by omega)) ((br_le (show (0 : Int32) = nI 0 from rfl) (show (4 : Int32) = nI 4 from rfl) (by omega) (by omega)).mpr (by omega))) (va_cwS 3 hts gX6_ofCell_X6_needWithin rfl rfl rfl (by decide +kernel) ⟨Nat.le_of_ble_eq_true rfl, Nat.le_of_ble_eq_true rfl⟩) (preS hP hK) rfl rfl hl.1 rfl (lv_room (Nat.le_of_ble_eq_true rfl)) dX6_ofCell_9 ⟨Nat.le_of_ble_eq_true rfl, Nat.le_of_ble_eq_true rfl⟩) hS (fun H locs hP hS => ?_)
  refine lv_aload_n hx hb dX6_ofCell_12 rfl (lv_at hl 0 rfl) ?_
  refine x_get (ref := RX6) (C := RX6) (T := TX6) (N := 11) (ci := 6) (v := .ref (o + 1)) hx hb hts iX6 hown hK.1 hP (by omega) (by omega) (((gw_out (by omega)).trans ((gw_out (by omega)).trans (hw_0)))) rfl 0 (by decide) (hts (.fieldLink RX6 10 "PoreField" "ground" "LPoreField$Ground;") (by decide +kernel)) (fun _ h9 => h9) rfl dX6_ofCell_13 ?_
  refine x_get (ref := RX2) (C := RX2) (T := TX2) (N := 12) (ci := 2) (v := .ref ((o + 1) + 1)) hx hb hts iX2 hown hK.1 hP (by omega) (by omega) (gw_0) rfl 0 (by decide) (hts (.fieldLink RX6 59 "PoreField$Ground" "cells" "[LPoreField$Cell;") (by decide +kernel)) (fun _ h9 => h9) rfl dX6_ofCell_16 ?_
  refine lv_iload_n hx hb dX6_ofCell_19 rfl (lv_at hl 1 rfl) ?_
  refine x_aald (b := ((o + 1) + (5 + 2 * ce))) hx hb hK.1 hP (by omega) (by omega) 1 (gw_1) rfl (cl_of_nI (i := ce) rfl (by omega)) rfl (vp_in_of_nI (i := ce) rfl (by omega) (by omega)) dX6_ofCell_20 ?_
  refine lv_astore_n (lv' := [(3, .ref ((o + 1) + (5 + 2 * ce))), (0, .ref o), (1, .int (nI ce)), (2, .int (0 : Int32))]) hx hb dX6_ofCell_21 rfl hl (by decide) rfl (fun ls hl => ?_)
  refine lv_iload_n hx hb dX6_ofCell_22 rfl (lv_at hl 3 rfl) ?_
  refine lv_if_ne (tgt := 31) hx hb dX6_ofCell_23 (by decide) (fun c => absurd ((br_eq (show (0 : Int32) = nI 0 from rfl) (show (0 : Int32) = nI 0 from rfl) (by omega) (by omega)).mpr (by omega)) c) (fun _ => ?_)
  refine lv_aload_n hx hb dX6_ofCell_26 rfl (lv_at hl 0 rfl) ?_
  refine x_get (ref := RX1) (C := RX1) (T := TX1) (N := 4) (ci := 1) (v := .int (G (5 + 2 * ce) 0)) hx hb hts iX1 hown hK.1 hP (by omega) (by omega) (gw_cell (by omega)) rfl 0 (by decide) (hts (.fieldLink RX6 63 "PoreField$Cell" "room" "I") (by decide +kernel)) (fun _ h9 => h9) rfl dX6_ofCell_27 ?_
  exact W.iret (v := (G (5 + 2 * ce) 0)) hx hb hr (fun tE ht hW => ⟨⟨(G (5 + 2 * ce) 0), (), rfl, rfl, x_at ht (hP)⟩, hS.F ht⟩) hS.2.2 dX6_ofCell_30

set_option maxRecDepth 100000 in
set_option maxHeartbeats 4000000 in
/-- ofCell, 1 -/
theorem c_X6_ofCell_1 (l : Launch) (D : va_G) (cy : Nat → ClassId) (lo n : Nat) (w0 : Nat → va_E) (o : Nat) (G T P : Mem) (ho1 : lo ≤ o) (ho2 : o + 118 ≤ lo + n) (nd : Nat) (hG : GI nd G) (ce : Nat) (hc : ce < 16)  : Met l yX6_ofCell wsX6_ofCell ({ frames := 2, cells := 0, slots := 0, locals := 40 }) (PcW D cy lo n (gw cy (gw cy (hw cy w0 o P) (o + 50) T) (o + 1) G) [.ref o, .int (nI ce), .int (1 : Int32)]) (QiW D lo n (gw cy (gw cy (hw cy w0 o P) (o + 50) T) (o + 1) G) (m_ofCell G ce 1)) 0 0 (fun q : Nat => lo ≤ q) := by
  refine Met.ofW (cc := cX6_ofCell) (maxL := 4) (ret := (some .int)) (by decide) rfl ?_
  intro p e s m args below meth c s₁ B hml hv
  obtain ⟨rfl, hP, hK, hS⟩ := x_entry hv
  have hx := B.exec
  have hb := B.bytes
  have hr := B.returns
  have hts := atoms_spec (ws := wsX6_ofCell) B.pre
  have hown : s.vm.findClass RX6 = some m.cls := findClass_of_methodNamed B.named
  have hlocks := B.notSynchronized
  have iX1 : ∀ w ∈ u_ws RX1 TX1 4, w ∈ wsX6_ofCell := by decide +kernel
  have iX2 : ∀ w ∈ u_ws RX2 TX2 12, w ∈ wsX6_ofCell := by decide +kernel
  have iX6 : ∀ w ∈ u_ws RX6 TX6 11, w ∈ wsX6_ofCell := by decide +kernel
  have hl := lv_entry ([.ref o, .int (nI ce), .int (1 : Int32)]) (n := 4) (Nat.le_of_ble_eq_true rfl)
  rw [lg_entry_eq]
  generalize (lg_sl ([.ref o, .int (nI ce), .int (1 : Int32)]) ++ List.replicate (4 - (lg_sl ([.ref o, .int (nI ce), .int (1 : Int32)])).length) Slot.unset).toArray = ls at hl ⊢
  have hl : lv_has ls 4 [(0, .ref o), (1, .int (nI ce)), (2, .int (1 : Int32))] := hl
  refine lv_iload_n hx hb dX6_ofCell_0 rfl (lv_at hl 1 rfl) ?_
  refine lv_bipush (v := 16) hx hb dX6_ofCell_1 (by decide) ?_
  refine x_callv (va_runS (As := [.int (nI ce), .int (16 : Int32)]) (rest := []) ⟨hx, hb, hml, hown, hts⟩ (c_X6_needIndex l D cy lo n (gw cy (gw cy (hw cy w0 o P) (o + 50) T) (o + 1) G) ce 16 (by omega) (by omega) (nI ce) (16 : Int32) rfl rfl) (va_cwS 2 hts gX6_ofCell_X6_needIndex rfl rfl rfl (by decide +kernel) ⟨Nat.le_of_ble_eq_true rfl, Nat.le_of_ble_eq_true rfl⟩) (preS hP hK) rfl rfl hl.1 rfl (lv_room (Nat.le_of_ble_eq_true rfl)) dX6_ofCell_3 ⟨Nat.le_of_ble_eq_true rfl, Nat.le_of_ble_eq_true rfl⟩) hS (fun H locs hP hS => ?_)
  refine lv_iload_n hx hb dX6_ofCell_6 rfl (lv_at hl 2 rfl) ?_
  refine lv_iconst (v := 0) hx hb dX6_ofCell_7 (by decide) ?_
  refine lv_iconst (v := 4) hx hb dX6_ofCell_8 (by decide) ?_
  refine x_callv (va_runS (As := [.int (1 : Int32), .int (0 : Int32), .int (4 : Int32)]) (rest := []) ⟨hx, hb, hml, hown, hts⟩ (c_X6_needWithin l D cy lo n (gw cy (gw cy (hw cy w0 o P) (o + 50) T) (o + 1) G) (1 : Int32) (0 : Int32) (4 : Int32) ((br_le (show (0 : Int32) = nI 0 from rfl) (show (1 : Int32) = nI 1 from rfl) (by omega) (by omega)).mpr (by omega)) ((br_le (show (1 : Int32) = nI 1 from rfl) (show (4 : Int32) = nI 4 from rfl) (by omega) (by omega)).mpr (by omega))) (va_cwS 3 hts gX6_ofCell_X6_needWithin rfl rfl rfl (by decide +kernel) ⟨Nat.le_of_ble_eq_true rfl, Nat.le_of_ble_eq_true rfl⟩) (preS hP hK) rfl rfl hl.1 rfl (lv_room (Nat.le_of_ble_eq_true rfl)) dX6_ofCell_9 ⟨Nat.le_of_ble_eq_true rfl, Nat.le_of_ble_eq_true rfl⟩) hS (fun H locs hP hS => ?_)
  refine lv_aload_n hx hb dX6_ofCell_12 rfl (lv_at hl 0 rfl) ?_
  refine x_get (ref := RX6) (C := RX6) (T := TX6) (N := 11) (ci := 6) (v := .ref (o + 1)) hx hb hts iX6 hown hK.1 hP (by omega) (by omega) (((gw_out (by omega)).trans ((gw_out (by omega)).trans (hw_0)))) rfl 0 (by decide) (hts (.fieldLink RX6 10 "PoreField" "ground" "LPoreField$Ground;") (by decide +kernel)) (fun _ h9 => h9) rfl dX6_ofCell_13 ?_
  refine x_get (ref := RX2) (C := RX2) (T := TX2) (N := 12) (ci := 2) (v := .ref ((o + 1) + 1)) hx hb hts iX2 hown hK.1 hP (by omega) (by omega) (gw_0) rfl 0 (by decide) (hts (.fieldLink RX6 59 "PoreField$Ground" "cells" "[LPoreField$Cell;") (by decide +kernel)) (fun _ h9 => h9) rfl dX6_ofCell_16 ?_
  refine lv_iload_n hx hb dX6_ofCell_19 rfl (lv_at hl 1 rfl) ?_
  refine x_aald (b := ((o + 1) + (5 + 2 * ce))) hx hb hK.1 hP (by omega) (by omega) 1 (gw_1) rfl (cl_of_nI (i := ce) rfl (by omega)) rfl (vp_in_of_nI (i := ce) rfl (by omega) (by omega)) dX6_ofCell_20 ?_
  refine lv_astore_n (lv' := [(3, .ref ((o + 1) + (5 + 2 * ce))), (0, .ref o), (1, .int (nI ce)), (2, .int (1 : Int32))]) hx hb dX6_ofCell_21 rfl hl (by decide) rfl (fun ls hl => ?_)
  refine lv_iload_n hx hb dX6_ofCell_22 rfl (lv_at hl 3 rfl) ?_
  refine lv_if_ne (tgt := 31) hx hb dX6_ofCell_23 (by decide) (fun _ => ?_) (fun c => absurd ((br_eq (show (1 : Int32) = nI 1 from rfl) (show (0 : Int32) = nI 0 from rfl) (by omega) (by omega)).mp c) (by omega))
  refine lv_iload_n hx hb dX6_ofCell_31 rfl (lv_at hl 3 rfl) ?_
  refine lv_iconst (v := 4) hx hb dX6_ofCell_32 (by decide) ?_
  refine lv_icmp_ne (tgt := 43) hx hb dX6_ofCell_33 (by decide) (fun _ => ?_) (fun c => absurd ((br_eq (show (1 : Int32) = nI 1 from rfl) (show (4 : Int32) = nI 4 from rfl) (by omega) (by omega)).mp c) (by omega))
  refine lv_aload_n hx hb dX6_ofCell_43 rfl (lv_at hl 0 rfl) ?_
  refine x_get (ref := RX1) (C := RX1) (T := TX1) (N := 4) (ci := 1) (v := .ref ((o + 1) + (6 + 2 * ce))) hx hb hts iX1 hown hK.1 hP (by omega) (by omega) (gw_cell (by omega)) rfl 1 (by decide) (hts (.fieldLink RX6 68 "PoreField$Cell" "fluids" "[I") (by decide +kernel)) (fun _ h9 => h9) rfl dX6_ofCell_44 ?_
  refine lv_iload_n hx hb dX6_ofCell_47 rfl (lv_at hl 3 rfl) ?_
  refine lv_iconst (v := 1) hx hb dX6_ofCell_48 (by decide) ?_
  refine lv_isub hx hb dX6_ofCell_49 ?_
  refine x_iald hx hb hK.1 hP (by omega) (by omega) 0 (gw_row (gRow_fl (by omega))) rfl (cl_of_nI (i := 0) (by decide) (by omega)) (vp_in_of_nI (i := 0) (by decide) (by omega) (by omega)) dX6_ofCell_50 ?_
  exact W.iret (v := (G (6 + 2 * ce) 0)) hx hb hr (fun tE ht hW => ⟨⟨(G (6 + 2 * ce) 0), (), rfl, rfl, x_at ht (hP)⟩, hS.F ht⟩) hS.2.2 dX6_ofCell_51

set_option maxRecDepth 100000 in
set_option maxHeartbeats 4000000 in
/-- ofCell, 2 -/
theorem c_X6_ofCell_2 (l : Launch) (D : va_G) (cy : Nat → ClassId) (lo n : Nat) (w0 : Nat → va_E) (o : Nat) (G T P : Mem) (ho1 : lo ≤ o) (ho2 : o + 118 ≤ lo + n) (nd : Nat) (hG : GI nd G) (ce : Nat) (hc : ce < 16)  : Met l yX6_ofCell wsX6_ofCell ({ frames := 2, cells := 0, slots := 0, locals := 40 }) (PcW D cy lo n (gw cy (gw cy (hw cy w0 o P) (o + 50) T) (o + 1) G) [.ref o, .int (nI ce), .int (2 : Int32)]) (QiW D lo n (gw cy (gw cy (hw cy w0 o P) (o + 50) T) (o + 1) G) (m_ofCell G ce 2)) 0 0 (fun q : Nat => lo ≤ q) := by
  refine Met.ofW (cc := cX6_ofCell) (maxL := 4) (ret := (some .int)) (by decide) rfl ?_
  intro p e s m args below meth c s₁ B hml hv
  obtain ⟨rfl, hP, hK, hS⟩ := x_entry hv
  have hx := B.exec
  have hb := B.bytes
  have hr := B.returns
  have hts := atoms_spec (ws := wsX6_ofCell) B.pre
  have hown : s.vm.findClass RX6 = some m.cls := findClass_of_methodNamed B.named
  have hlocks := B.notSynchronized
  have iX1 : ∀ w ∈ u_ws RX1 TX1 4, w ∈ wsX6_ofCell := by decide +kernel
  have iX2 : ∀ w ∈ u_ws RX2 TX2 12, w ∈ wsX6_ofCell := by decide +kernel
  have iX6 : ∀ w ∈ u_ws RX6 TX6 11, w ∈ wsX6_ofCell := by decide +kernel
  have hl := lv_entry ([.ref o, .int (nI ce), .int (2 : Int32)]) (n := 4) (Nat.le_of_ble_eq_true rfl)
  rw [lg_entry_eq]
  generalize (lg_sl ([.ref o, .int (nI ce), .int (2 : Int32)]) ++ List.replicate (4 - (lg_sl ([.ref o, .int (nI ce), .int (2 : Int32)])).length) Slot.unset).toArray = ls at hl ⊢
  have hl : lv_has ls 4 [(0, .ref o), (1, .int (nI ce)), (2, .int (2 : Int32))] := hl
  refine lv_iload_n hx hb dX6_ofCell_0 rfl (lv_at hl 1 rfl) ?_
  refine lv_bipush (v := 16) hx hb dX6_ofCell_1 (by decide) ?_
  refine x_callv (va_runS (As := [.int (nI ce), .int (16 : Int32)]) (rest := []) ⟨hx, hb, hml, hown, hts⟩ (c_X6_needIndex l D cy lo n (gw cy (gw cy (hw cy w0 o P) (o + 50) T) (o + 1) G) ce 16 (by omega) (by omega) (nI ce) (16 : Int32) rfl rfl) (va_cwS 2 hts gX6_ofCell_X6_needIndex rfl rfl rfl (by decide +kernel) ⟨Nat.le_of_ble_eq_true rfl, Nat.le_of_ble_eq_true rfl⟩) (preS hP hK) rfl rfl hl.1 rfl (lv_room (Nat.le_of_ble_eq_true rfl)) dX6_ofCell_3 ⟨Nat.le_of_ble_eq_true rfl, Nat.le_of_ble_eq_true rfl⟩) hS (fun H locs hP hS => ?_)
  refine lv_iload_n hx hb dX6_ofCell_6 rfl (lv_at hl 2 rfl) ?_
  refine lv_iconst (v := 0) hx hb dX6_ofCell_7 (by decide) ?_
  refine lv_iconst (v := 4) hx hb dX6_ofCell_8 (by decide) ?_
  refine x_callv (va_runS (As := [.int (2 : Int32), .int (0 : Int32), .int (4 : Int32)]) (rest := []) ⟨hx, hb, hml, hown, hts⟩ (c_X6_needWithin l D cy lo n (gw cy (gw cy (hw cy w0 o P) (o + 50) T) (o + 1) G) (2 : Int32) (0 : Int32) (4 : Int32) ((br_le (show (0 : Int32) = nI 0 from rfl) (show (2 : Int32) = nI 2 from rfl) (by omega) (by omega)).mpr (by omega)) ((br_le (show (2 : Int32) = nI 2 from rfl) (show (4 : Int32) = nI 4 from rfl) (by omega) (by omega)).mpr (by omega))) (va_cwS 3 hts gX6_ofCell_X6_needWithin rfl rfl rfl (by decide +kernel) ⟨Nat.le_of_ble_eq_true rfl, Nat.le_of_ble_eq_true rfl⟩) (preS hP hK) rfl rfl hl.1 rfl (lv_room (Nat.le_of_ble_eq_true rfl)) dX6_ofCell_9 ⟨Nat.le_of_ble_eq_true rfl, Nat.le_of_ble_eq_true rfl⟩) hS (fun H locs hP hS => ?_)
  refine lv_aload_n hx hb dX6_ofCell_12 rfl (lv_at hl 0 rfl) ?_
  refine x_get (ref := RX6) (C := RX6) (T := TX6) (N := 11) (ci := 6) (v := .ref (o + 1)) hx hb hts iX6 hown hK.1 hP (by omega) (by omega) (((gw_out (by omega)).trans ((gw_out (by omega)).trans (hw_0)))) rfl 0 (by decide) (hts (.fieldLink RX6 10 "PoreField" "ground" "LPoreField$Ground;") (by decide +kernel)) (fun _ h9 => h9) rfl dX6_ofCell_13 ?_
  refine x_get (ref := RX2) (C := RX2) (T := TX2) (N := 12) (ci := 2) (v := .ref ((o + 1) + 1)) hx hb hts iX2 hown hK.1 hP (by omega) (by omega) (gw_0) rfl 0 (by decide) (hts (.fieldLink RX6 59 "PoreField$Ground" "cells" "[LPoreField$Cell;") (by decide +kernel)) (fun _ h9 => h9) rfl dX6_ofCell_16 ?_
  refine lv_iload_n hx hb dX6_ofCell_19 rfl (lv_at hl 1 rfl) ?_
  refine x_aald (b := ((o + 1) + (5 + 2 * ce))) hx hb hK.1 hP (by omega) (by omega) 1 (gw_1) rfl (cl_of_nI (i := ce) rfl (by omega)) rfl (vp_in_of_nI (i := ce) rfl (by omega) (by omega)) dX6_ofCell_20 ?_
  refine lv_astore_n (lv' := [(3, .ref ((o + 1) + (5 + 2 * ce))), (0, .ref o), (1, .int (nI ce)), (2, .int (2 : Int32))]) hx hb dX6_ofCell_21 rfl hl (by decide) rfl (fun ls hl => ?_)
  refine lv_iload_n hx hb dX6_ofCell_22 rfl (lv_at hl 3 rfl) ?_
  refine lv_if_ne (tgt := 31) hx hb dX6_ofCell_23 (by decide) (fun _ => ?_) (fun c => absurd ((br_eq (show (2 : Int32) = nI 2 from rfl) (show (0 : Int32) = nI 0 from rfl) (by omega) (by omega)).mp c) (by omega))
  refine lv_iload_n hx hb dX6_ofCell_31 rfl (lv_at hl 3 rfl) ?_
  refine lv_iconst (v := 4) hx hb dX6_ofCell_32 (by decide) ?_
  refine lv_icmp_ne (tgt := 43) hx hb dX6_ofCell_33 (by decide) (fun _ => ?_) (fun c => absurd ((br_eq (show (2 : Int32) = nI 2 from rfl) (show (4 : Int32) = nI 4 from rfl) (by omega) (by omega)).mp c) (by omega))
  refine lv_aload_n hx hb dX6_ofCell_43 rfl (lv_at hl 0 rfl) ?_
  refine x_get (ref := RX1) (C := RX1) (T := TX1) (N := 4) (ci := 1) (v := .ref ((o + 1) + (6 + 2 * ce))) hx hb hts iX1 hown hK.1 hP (by omega) (by omega) (gw_cell (by omega)) rfl 1 (by decide) (hts (.fieldLink RX6 68 "PoreField$Cell" "fluids" "[I") (by decide +kernel)) (fun _ h9 => h9) rfl dX6_ofCell_44 ?_
  refine lv_iload_n hx hb dX6_ofCell_47 rfl (lv_at hl 3 rfl) ?_
  refine lv_iconst (v := 1) hx hb dX6_ofCell_48 (by decide) ?_
  refine lv_isub hx hb dX6_ofCell_49 ?_
  refine x_iald hx hb hK.1 hP (by omega) (by omega) 0 (gw_row (gRow_fl (by omega))) rfl (cl_of_nI (i := 1) (by decide) (by omega)) (vp_in_of_nI (i := 1) (by decide) (by omega) (by omega)) dX6_ofCell_50 ?_
  exact W.iret (v := (G (6 + 2 * ce) 1)) hx hb hr (fun tE ht hW => ⟨⟨(G (6 + 2 * ce) 1), (), rfl, rfl, x_at ht (hP)⟩, hS.F ht⟩) hS.2.2 dX6_ofCell_51

set_option maxRecDepth 100000 in
set_option maxHeartbeats 4000000 in
/-- ofCell, 3 -/
theorem c_X6_ofCell_3 (l : Launch) (D : va_G) (cy : Nat → ClassId) (lo n : Nat) (w0 : Nat → va_E) (o : Nat) (G T P : Mem) (ho1 : lo ≤ o) (ho2 : o + 118 ≤ lo + n) (nd : Nat) (hG : GI nd G) (ce : Nat) (hc : ce < 16)  : Met l yX6_ofCell wsX6_ofCell ({ frames := 2, cells := 0, slots := 0, locals := 40 }) (PcW D cy lo n (gw cy (gw cy (hw cy w0 o P) (o + 50) T) (o + 1) G) [.ref o, .int (nI ce), .int (3 : Int32)]) (QiW D lo n (gw cy (gw cy (hw cy w0 o P) (o + 50) T) (o + 1) G) (m_ofCell G ce 3)) 0 0 (fun q : Nat => lo ≤ q) := by
  refine Met.ofW (cc := cX6_ofCell) (maxL := 4) (ret := (some .int)) (by decide) rfl ?_
  intro p e s m args below meth c s₁ B hml hv
  obtain ⟨rfl, hP, hK, hS⟩ := x_entry hv
  have hx := B.exec
  have hb := B.bytes
  have hr := B.returns
  have hts := atoms_spec (ws := wsX6_ofCell) B.pre
  have hown : s.vm.findClass RX6 = some m.cls := findClass_of_methodNamed B.named
  have hlocks := B.notSynchronized
  have iX1 : ∀ w ∈ u_ws RX1 TX1 4, w ∈ wsX6_ofCell := by decide +kernel
  have iX2 : ∀ w ∈ u_ws RX2 TX2 12, w ∈ wsX6_ofCell := by decide +kernel
  have iX6 : ∀ w ∈ u_ws RX6 TX6 11, w ∈ wsX6_ofCell := by decide +kernel
  have hl := lv_entry ([.ref o, .int (nI ce), .int (3 : Int32)]) (n := 4) (Nat.le_of_ble_eq_true rfl)
  rw [lg_entry_eq]
  generalize (lg_sl ([.ref o, .int (nI ce), .int (3 : Int32)]) ++ List.replicate (4 - (lg_sl ([.ref o, .int (nI ce), .int (3 : Int32)])).length) Slot.unset).toArray = ls at hl ⊢
  have hl : lv_has ls 4 [(0, .ref o), (1, .int (nI ce)), (2, .int (3 : Int32))] := hl
  refine lv_iload_n hx hb dX6_ofCell_0 rfl (lv_at hl 1 rfl) ?_
  refine lv_bipush (v := 16) hx hb dX6_ofCell_1 (by decide) ?_
  refine x_callv (va_runS (As := [.int (nI ce), .int (16 : Int32)]) (rest := []) ⟨hx, hb, hml, hown, hts⟩ (c_X6_needIndex l D cy lo n (gw cy (gw cy (hw cy w0 o P) (o + 50) T) (o + 1) G) ce 16 (by omega) (by omega) (nI ce) (16 : Int32) rfl rfl) (va_cwS 2 hts gX6_ofCell_X6_needIndex rfl rfl rfl (by decide +kernel) ⟨Nat.le_of_ble_eq_true rfl, Nat.le_of_ble_eq_true rfl⟩) (preS hP hK) rfl rfl hl.1 rfl (lv_room (Nat.le_of_ble_eq_true rfl)) dX6_ofCell_3 ⟨Nat.le_of_ble_eq_true rfl, Nat.le_of_ble_eq_true rfl⟩) hS (fun H locs hP hS => ?_)
  refine lv_iload_n hx hb dX6_ofCell_6 rfl (lv_at hl 2 rfl) ?_
  refine lv_iconst (v := 0) hx hb dX6_ofCell_7 (by decide) ?_
  refine lv_iconst (v := 4) hx hb dX6_ofCell_8 (by decide) ?_
  refine x_callv (va_runS (As := [.int (3 : Int32), .int (0 : Int32), .int (4 : Int32)]) (rest := []) ⟨hx, hb, hml, hown, hts⟩ (c_X6_needWithin l D cy lo n (gw cy (gw cy (hw cy w0 o P) (o + 50) T) (o + 1) G) (3 : Int32) (0 : Int32) (4 : Int32) ((br_le (show (0 : Int32) = nI 0 from rfl) (show (3 : Int32) = nI 3 from rfl) (by omega) (by omega)).mpr (by omega)) ((br_le (show (3 : Int32) = nI 3 from rfl) (show (4 : Int32) = nI 4 from rfl) (by omega) (by omega)).mpr (by omega))) (va_cwS 3 hts gX6_ofCell_X6_needWithin rfl rfl rfl (by decide +kernel) ⟨Nat.le_of_ble_eq_true rfl, Nat.le_of_ble_eq_true rfl⟩) (preS hP hK) rfl rfl hl.1 rfl (lv_room (Nat.le_of_ble_eq_true rfl)) dX6_ofCell_9 ⟨Nat.le_of_ble_eq_true rfl, Nat.le_of_ble_eq_true rfl⟩) hS (fun H locs hP hS => ?_)
  refine lv_aload_n hx hb dX6_ofCell_12 rfl (lv_at hl 0 rfl) ?_
  refine x_get (ref := RX6) (C := RX6) (T := TX6) (N := 11) (ci := 6) (v := .ref (o + 1)) hx hb hts iX6 hown hK.1 hP (by omega) (by omega) (((gw_out (by omega)).trans ((gw_out (by omega)).trans (hw_0)))) rfl 0 (by decide) (hts (.fieldLink RX6 10 "PoreField" "ground" "LPoreField$Ground;") (by decide +kernel)) (fun _ h9 => h9) rfl dX6_ofCell_13 ?_
  refine x_get (ref := RX2) (C := RX2) (T := TX2) (N := 12) (ci := 2) (v := .ref ((o + 1) + 1)) hx hb hts iX2 hown hK.1 hP (by omega) (by omega) (gw_0) rfl 0 (by decide) (hts (.fieldLink RX6 59 "PoreField$Ground" "cells" "[LPoreField$Cell;") (by decide +kernel)) (fun _ h9 => h9) rfl dX6_ofCell_16 ?_
  refine lv_iload_n hx hb dX6_ofCell_19 rfl (lv_at hl 1 rfl) ?_
  refine x_aald (b := ((o + 1) + (5 + 2 * ce))) hx hb hK.1 hP (by omega) (by omega) 1 (gw_1) rfl (cl_of_nI (i := ce) rfl (by omega)) rfl (vp_in_of_nI (i := ce) rfl (by omega) (by omega)) dX6_ofCell_20 ?_
  refine lv_astore_n (lv' := [(3, .ref ((o + 1) + (5 + 2 * ce))), (0, .ref o), (1, .int (nI ce)), (2, .int (3 : Int32))]) hx hb dX6_ofCell_21 rfl hl (by decide) rfl (fun ls hl => ?_)
  refine lv_iload_n hx hb dX6_ofCell_22 rfl (lv_at hl 3 rfl) ?_
  refine lv_if_ne (tgt := 31) hx hb dX6_ofCell_23 (by decide) (fun _ => ?_) (fun c => absurd ((br_eq (show (3 : Int32) = nI 3 from rfl) (show (0 : Int32) = nI 0 from rfl) (by omega) (by omega)).mp c) (by omega))
  refine lv_iload_n hx hb dX6_ofCell_31 rfl (lv_at hl 3 rfl) ?_
  refine lv_iconst (v := 4) hx hb dX6_ofCell_32 (by decide) ?_
  refine lv_icmp_ne (tgt := 43) hx hb dX6_ofCell_33 (by decide) (fun _ => ?_) (fun c => absurd ((br_eq (show (3 : Int32) = nI 3 from rfl) (show (4 : Int32) = nI 4 from rfl) (by omega) (by omega)).mp c) (by omega))
  refine lv_aload_n hx hb dX6_ofCell_43 rfl (lv_at hl 0 rfl) ?_
  refine x_get (ref := RX1) (C := RX1) (T := TX1) (N := 4) (ci := 1) (v := .ref ((o + 1) + (6 + 2 * ce))) hx hb hts iX1 hown hK.1 hP (by omega) (by omega) (gw_cell (by omega)) rfl 1 (by decide) (hts (.fieldLink RX6 68 "PoreField$Cell" "fluids" "[I") (by decide +kernel)) (fun _ h9 => h9) rfl dX6_ofCell_44 ?_
  refine lv_iload_n hx hb dX6_ofCell_47 rfl (lv_at hl 3 rfl) ?_
  refine lv_iconst (v := 1) hx hb dX6_ofCell_48 (by decide) ?_
  refine lv_isub hx hb dX6_ofCell_49 ?_
  refine x_iald hx hb hK.1 hP (by omega) (by omega) 0 (gw_row (gRow_fl (by omega))) rfl (cl_of_nI (i := 2) (by decide) (by omega)) (vp_in_of_nI (i := 2) (by decide) (by omega) (by omega)) dX6_ofCell_50 ?_
  exact W.iret (v := (G (6 + 2 * ce) 2)) hx hb hr (fun tE ht hW => ⟨⟨(G (6 + 2 * ce) 2), (), rfl, rfl, x_at ht (hP)⟩, hS.F ht⟩) hS.2.2 dX6_ofCell_51

set_option maxRecDepth 100000 in
set_option maxHeartbeats 4000000 in
/-- ofCell, 4 -/
theorem c_X6_ofCell_4 (l : Launch) (D : va_G) (cy : Nat → ClassId) (lo n : Nat) (w0 : Nat → va_E) (o : Nat) (G T P : Mem) (ho1 : lo ≤ o) (ho2 : o + 118 ≤ lo + n) (nd : Nat) (hG : GI nd G) (ce : Nat) (hc : ce < 16)  : Met l yX6_ofCell wsX6_ofCell ({ frames := 2, cells := 0, slots := 0, locals := 40 }) (PcW D cy lo n (gw cy (gw cy (hw cy w0 o P) (o + 50) T) (o + 1) G) [.ref o, .int (nI ce), .int (4 : Int32)]) (QiW D lo n (gw cy (gw cy (hw cy w0 o P) (o + 50) T) (o + 1) G) (m_ofCell G ce 4)) 0 0 (fun q : Nat => lo ≤ q) := by
  refine Met.ofW (cc := cX6_ofCell) (maxL := 4) (ret := (some .int)) (by decide) rfl ?_
  intro p e s m args below meth c s₁ B hml hv
  obtain ⟨rfl, hP, hK, hS⟩ := x_entry hv
  have hx := B.exec
  have hb := B.bytes
  have hr := B.returns
  have hts := atoms_spec (ws := wsX6_ofCell) B.pre
  have hown : s.vm.findClass RX6 = some m.cls := findClass_of_methodNamed B.named
  have hlocks := B.notSynchronized
  have iX2 : ∀ w ∈ u_ws RX2 TX2 12, w ∈ wsX6_ofCell := by decide +kernel
  have iX6 : ∀ w ∈ u_ws RX6 TX6 11, w ∈ wsX6_ofCell := by decide +kernel
  have hl := lv_entry ([.ref o, .int (nI ce), .int (4 : Int32)]) (n := 4) (Nat.le_of_ble_eq_true rfl)
  rw [lg_entry_eq]
  generalize (lg_sl ([.ref o, .int (nI ce), .int (4 : Int32)]) ++ List.replicate (4 - (lg_sl ([.ref o, .int (nI ce), .int (4 : Int32)])).length) Slot.unset).toArray = ls at hl ⊢
  have hl : lv_has ls 4 [(0, .ref o), (1, .int (nI ce)), (2, .int (4 : Int32))] := hl
  refine lv_iload_n hx hb dX6_ofCell_0 rfl (lv_at hl 1 rfl) ?_
  refine lv_bipush (v := 16) hx hb dX6_ofCell_1 (by decide) ?_
  refine x_callv (va_runS (As := [.int (nI ce), .int (16 : Int32)]) (rest := []) ⟨hx, hb, hml, hown, hts⟩ (c_X6_needIndex l D cy lo n (gw cy (gw cy (hw cy w0 o P) (o + 50) T) (o + 1) G) ce 16 (by omega) (by omega) (nI ce) (16 : Int32) rfl rfl) (va_cwS 2 hts gX6_ofCell_X6_needIndex rfl rfl rfl (by decide +kernel) ⟨Nat.le_of_ble_eq_true rfl, Nat.le_of_ble_eq_true rfl⟩) (preS hP hK) rfl rfl hl.1 rfl (lv_room (Nat.le_of_ble_eq_true rfl)) dX6_ofCell_3 ⟨Nat.le_of_ble_eq_true rfl, Nat.le_of_ble_eq_true rfl⟩) hS (fun H locs hP hS => ?_)
  refine lv_iload_n hx hb dX6_ofCell_6 rfl (lv_at hl 2 rfl) ?_
  refine lv_iconst (v := 0) hx hb dX6_ofCell_7 (by decide) ?_
  refine lv_iconst (v := 4) hx hb dX6_ofCell_8 (by decide) ?_
  refine x_callv (va_runS (As := [.int (4 : Int32), .int (0 : Int32), .int (4 : Int32)]) (rest := []) ⟨hx, hb, hml, hown, hts⟩ (c_X6_needWithin l D cy lo n (gw cy (gw cy (hw cy w0 o P) (o + 50) T) (o + 1) G) (4 : Int32) (0 : Int32) (4 : Int32) ((br_le (show (0 : Int32) = nI 0 from rfl) (show (4 : Int32) = nI 4 from rfl) (by omega) (by omega)).mpr (by omega)) ((br_le (show (4 : Int32) = nI 4 from rfl) (show (4 : Int32) = nI 4 from rfl) (by omega) (by omega)).mpr (by omega))) (va_cwS 3 hts gX6_ofCell_X6_needWithin rfl rfl rfl (by decide +kernel) ⟨Nat.le_of_ble_eq_true rfl, Nat.le_of_ble_eq_true rfl⟩) (preS hP hK) rfl rfl hl.1 rfl (lv_room (Nat.le_of_ble_eq_true rfl)) dX6_ofCell_9 ⟨Nat.le_of_ble_eq_true rfl, Nat.le_of_ble_eq_true rfl⟩) hS (fun H locs hP hS => ?_)
  refine lv_aload_n hx hb dX6_ofCell_12 rfl (lv_at hl 0 rfl) ?_
  refine x_get (ref := RX6) (C := RX6) (T := TX6) (N := 11) (ci := 6) (v := .ref (o + 1)) hx hb hts iX6 hown hK.1 hP (by omega) (by omega) (((gw_out (by omega)).trans ((gw_out (by omega)).trans (hw_0)))) rfl 0 (by decide) (hts (.fieldLink RX6 10 "PoreField" "ground" "LPoreField$Ground;") (by decide +kernel)) (fun _ h9 => h9) rfl dX6_ofCell_13 ?_
  refine x_get (ref := RX2) (C := RX2) (T := TX2) (N := 12) (ci := 2) (v := .ref ((o + 1) + 1)) hx hb hts iX2 hown hK.1 hP (by omega) (by omega) (gw_0) rfl 0 (by decide) (hts (.fieldLink RX6 59 "PoreField$Ground" "cells" "[LPoreField$Cell;") (by decide +kernel)) (fun _ h9 => h9) rfl dX6_ofCell_16 ?_
  refine lv_iload_n hx hb dX6_ofCell_19 rfl (lv_at hl 1 rfl) ?_
  refine x_aald (b := ((o + 1) + (5 + 2 * ce))) hx hb hK.1 hP (by omega) (by omega) 1 (gw_1) rfl (cl_of_nI (i := ce) rfl (by omega)) rfl (vp_in_of_nI (i := ce) rfl (by omega) (by omega)) dX6_ofCell_20 ?_
  refine lv_astore_n (lv' := [(3, .ref ((o + 1) + (5 + 2 * ce))), (0, .ref o), (1, .int (nI ce)), (2, .int (4 : Int32))]) hx hb dX6_ofCell_21 rfl hl (by decide) rfl (fun ls hl => ?_)
  refine lv_iload_n hx hb dX6_ofCell_22 rfl (lv_at hl 3 rfl) ?_
  refine lv_if_ne (tgt := 31) hx hb dX6_ofCell_23 (by decide) (fun _ => ?_) (fun c => absurd ((br_eq (show (4 : Int32) = nI 4 from rfl) (show (0 : Int32) = nI 0 from rfl) (by omega) (by omega)).mp c) (by omega))
  refine lv_iload_n hx hb dX6_ofCell_31 rfl (lv_at hl 3 rfl) ?_
  refine lv_iconst (v := 4) hx hb dX6_ofCell_32 (by decide) ?_
  refine lv_icmp_ne (tgt := 43) hx hb dX6_ofCell_33 (by decide) (fun c => absurd ((br_eq (show (4 : Int32) = nI 4 from rfl) (show (4 : Int32) = nI 4 from rfl) (by omega) (by omega)).mpr (by omega)) c) (fun _ => ?_)
  refine lv_aload_n hx hb dX6_ofCell_36 rfl (lv_at hl 0 rfl) ?_
  refine x_calli (va_runV (As := []) (rest := []) ⟨hx, hb, hml, hown, hts⟩ (c_X1_pressure l D cy lo n (gw cy (hw cy w0 o P) (o + 50) T) (o + 1) G (by omega) (by omega) ce (by omega) (hG.rm (by omega))) (cwV 0 hts gX6_ofCell_X1_pressure rfl rfl rfl (by decide +kernel) ⟨Nat.le_of_ble_eq_true rfl, Nat.le_of_ble_eq_true rfl⟩) (preV hP hK (x_recv (ci := 1) (q := (RX1, TX1, 4)) hK.1 hP (by omega) (by omega) rfl (gw_cell (by omega)))) rfl rfl hl.1 rfl (lv_room (Nat.le_of_ble_eq_true rfl)) dX6_ofCell_37 ⟨Nat.le_of_ble_eq_true rfl, Nat.le_of_ble_eq_true rfl⟩) hS (fun H locs hP hS => ?_)
  refine lv_goto (tgt := 51) hx hb dX6_ofCell_40 (by decide) ?_
  exact W.iret (v := (m_pressure G ce)) hx hb hr (fun tE ht hW => ⟨⟨(m_pressure G ce), (), rfl, rfl, x_at ht (hP)⟩, hS.F ht⟩) hS.2.2 dX6_ofCell_51

set_option maxRecDepth 100000 in
set_option maxHeartbeats 4000000 in
/-- ofCell -/
theorem c_X6_ofCell (l : Launch) (D : va_G) (cy : Nat → ClassId) (lo n : Nat) (w0 : Nat → va_E) (o : Nat) (G T P : Mem) (ho1 : lo ≤ o) (ho2 : o + 118 ≤ lo + n) (nd : Nat) (hG : GI nd G) (ce : Nat) (hc : ce < 16) (k : Nat) (hk : k < 5) : Met l yX6_ofCell wsX6_ofCell ({ frames := 2, cells := 0, slots := 0, locals := 40 }) (PcW D cy lo n (gw cy (gw cy (hw cy w0 o P) (o + 50) T) (o + 1) G) [.ref o, .int (nI ce), .int (nI k)]) (QiW D lo n (gw cy (gw cy (hw cy w0 o P) (o + 50) T) (o + 1) G) (m_ofCell G ce k)) 0 0 (fun q : Nat => lo ≤ q) := by
  match k, hk with
  | 0, _ => exact c_X6_ofCell_0 l D cy lo n w0 o G T P ho1 ho2 nd hG ce hc
  | 1, _ => exact c_X6_ofCell_1 l D cy lo n w0 o G T P ho1 ho2 nd hG ce hc
  | 2, _ => exact c_X6_ofCell_2 l D cy lo n w0 o G T P ho1 ho2 nd hG ce hc
  | 3, _ => exact c_X6_ofCell_3 l D cy lo n w0 o G T P ho1 ho2 nd hG ce hc
  | 4, _ => exact c_X6_ofCell_4 l D cy lo n w0 o G T P ho1 ho2 nd hG ce hc
  | k + 5, h => exact absurd h (by omega)

set_option maxRecDepth 100000 in
set_option maxHeartbeats 4000000 in
/-- ofWell, 0 -/
theorem c_X6_ofWell_0 (l : Launch) (D : va_G) (cy : Nat → ClassId) (lo n : Nat) (w0 : Nat → va_E) (o : Nat) (G T P : Mem) (ho1 : lo ≤ o) (ho2 : o + 118 ≤ lo + n) (nd : Nat) (hG : GI nd G) (w : Nat) (hwl : w < nd)  : Met l yX6_ofWell wsX6_ofWell ({ frames := 1, cells := 0, slots := 0, locals := 22 }) (PcW D cy lo n (gw cy (gw cy (hw cy w0 o P) (o + 50) T) (o + 1) G) [.ref o, .int (nI w), .int (0 : Int32)]) (QiW D lo n (gw cy (gw cy (hw cy w0 o P) (o + 50) T) (o + 1) G) (m_ofWell G P w 0)) 0 0 (fun q : Nat => lo ≤ q) := by
  refine Met.ofW (cc := cX6_ofWell) (maxL := 5) (ret := (some .int)) (by decide) rfl ?_
  intro p e s m args below meth c s₁ B hml hv
  obtain ⟨rfl, hP, hK, hS⟩ := x_entry hv
  have hx := B.exec
  have hb := B.bytes
  have hr := B.returns
  have hts := atoms_spec (ws := wsX6_ofWell) B.pre
  have hown : s.vm.findClass RX6 = some m.cls := findClass_of_methodNamed B.named
  have hlocks := B.notSynchronized
  have iX2 : ∀ w ∈ u_ws RX2 TX2 12, w ∈ wsX6_ofWell := by decide +kernel
  have iX4 : ∀ w ∈ u_ws RX4 TX4 5, w ∈ wsX6_ofWell := by decide +kernel
  have iX6 : ∀ w ∈ u_ws RX6 TX6 11, w ∈ wsX6_ofWell := by decide +kernel
  have hl := lv_entry ([.ref o, .int (nI w), .int (0 : Int32)]) (n := 5) (Nat.le_of_ble_eq_true rfl)
  rw [lg_entry_eq]
  generalize (lg_sl ([.ref o, .int (nI w), .int (0 : Int32)]) ++ List.replicate (5 - (lg_sl ([.ref o, .int (nI w), .int (0 : Int32)])).length) Slot.unset).toArray = ls at hl ⊢
  have hl : lv_has ls 5 [(0, .ref o), (1, .int (nI w)), (2, .int (0 : Int32))] := hl
  have hnd := hG.1
  refine lv_iload_n hx hb dX6_ofWell_0 rfl (lv_at hl 1 rfl) ?_
  refine lv_aload_n hx hb dX6_ofWell_1 rfl (lv_at hl 0 rfl) ?_
  refine x_get (ref := RX6) (C := RX6) (T := TX6) (N := 11) (ci := 6) (v := .ref (o + 1)) hx hb hts iX6 hown hK.1 hP (by omega) (by omega) (((gw_out (by omega)).trans ((gw_out (by omega)).trans (hw_0)))) rfl 0 (by decide) (hts (.fieldLink RX6 10 "PoreField" "ground" "LPoreField$Ground;") (by decide +kernel)) (fun _ h9 => h9) rfl dX6_ofWell_2 ?_
  refine x_get (ref := RX2) (C := RX2) (T := TX2) (N := 12) (ci := 2) (v := .int (G 0 2)) hx hb hts iX2 hown hK.1 hP (by omega) (by omega) (gw_0) rfl 2 (by decide) (hts (.fieldLink RX6 87 "PoreField$Ground" "drilled" "I") (by decide +kernel)) (fun _ h9 => h9) rfl dX6_ofWell_5 ?_
  refine x_callv (va_runS (As := [.int (nI w), .int (G 0 2)]) (rest := []) ⟨hx, hb, hml, hown, hts⟩ (c_X6_needIndex l D cy lo n (gw cy (gw cy (hw cy w0 o P) (o + 50) T) (o + 1) G) w nd (by omega) (by omega) (nI w) (G 0 2) rfl hG.dr) (va_cwS 2 hts gX6_ofWell_X6_needIndex rfl rfl rfl (by decide +kernel) ⟨Nat.le_of_ble_eq_true rfl, Nat.le_of_ble_eq_true rfl⟩) (preS hP hK) rfl rfl hl.1 rfl (lv_room (Nat.le_of_ble_eq_true rfl)) dX6_ofWell_8 ⟨Nat.le_of_ble_eq_true rfl, Nat.le_of_ble_eq_true rfl⟩) hS (fun H locs hP hS => ?_)
  refine lv_iload_n hx hb dX6_ofWell_11 rfl (lv_at hl 2 rfl) ?_
  refine lv_iconst (v := 0) hx hb dX6_ofWell_12 (by decide) ?_
  refine lv_bipush (v := 13) hx hb dX6_ofWell_13 (by decide) ?_
  refine x_callv (va_runS (As := [.int (0 : Int32), .int (0 : Int32), .int (13 : Int32)]) (rest := []) ⟨hx, hb, hml, hown, hts⟩ (c_X6_needWithin l D cy lo n (gw cy (gw cy (hw cy w0 o P) (o + 50) T) (o + 1) G) (0 : Int32) (0 : Int32) (13 : Int32) ((br_le (show (0 : Int32) = nI 0 from rfl) (show (0 : Int32) = nI 0 from rfl) (by omega) (by omega)).mpr (by omega)) ((br_le (show (0 : Int32) = nI 0 from rfl) (show (13 : Int32) = nI 13 from rfl) (by omega) (by omega)).mpr (by omega))) (va_cwS 3 hts gX6_ofWell_X6_needWithin rfl rfl rfl (by decide +kernel) ⟨Nat.le_of_ble_eq_true rfl, Nat.le_of_ble_eq_true rfl⟩) (preS hP hK) rfl rfl hl.1 rfl (lv_room (Nat.le_of_ble_eq_true rfl)) dX6_ofWell_15 ⟨Nat.le_of_ble_eq_true rfl, Nat.le_of_ble_eq_true rfl⟩) hS (fun H locs hP hS => ?_)
  refine lv_aload_n hx hb dX6_ofWell_18 rfl (lv_at hl 0 rfl) ?_
  refine x_get (ref := RX6) (C := RX6) (T := TX6) (N := 11) (ci := 6) (v := .ref (o + 1)) hx hb hts iX6 hown hK.1 hP (by omega) (by omega) (((gw_out (by omega)).trans ((gw_out (by omega)).trans (hw_0)))) rfl 0 (by decide) (hts (.fieldLink RX6 10 "PoreField" "ground" "LPoreField$Ground;") (by decide +kernel)) (fun _ h9 => h9) rfl dX6_ofWell_19 ?_
  refine x_get (ref := RX2) (C := RX2) (T := TX2) (N := 12) (ci := 2) (v := .ref ((o + 1) + 2)) hx hb hts iX2 hown hK.1 hP (by omega) (by omega) (gw_0) rfl 1 (by decide) (hts (.fieldLink RX6 97 "PoreField$Ground" "wells" "[LPoreField$Well;") (by decide +kernel)) (fun _ h9 => h9) rfl dX6_ofWell_22 ?_
  refine lv_iload_n hx hb dX6_ofWell_25 rfl (lv_at hl 1 rfl) ?_
  refine x_aald (b := ((o + 1) + (37 + 2 * w))) hx hb hK.1 hP (by omega) (by omega) 2 (gw_2) rfl (cl_of_nI (i := w) rfl (by omega)) rfl (vp_in_of_nI (i := w) rfl (by omega) (by omega)) dX6_ofWell_26 ?_
  refine lv_astore_n (lv' := [(3, .ref ((o + 1) + (37 + 2 * w))), (0, .ref o), (1, .int (nI w)), (2, .int (0 : Int32))]) hx hb dX6_ofWell_27 rfl hl (by decide) rfl (fun ls hl => ?_)
  refine lv_aload_n hx hb dX6_ofWell_28 rfl (lv_at hl 1 rfl) ?_
  refine x_get (ref := RX6) (C := RX6) (T := TX6) (N := 11) (ci := 6) (v := .ref (o + 99)) hx hb hts iX6 hown hK.1 hP (by omega) (by omega) (((gw_out (by omega)).trans ((gw_out (by omega)).trans (hw_0)))) rfl 2 (by decide) (hts (.fieldLink RX6 21 "PoreField" "logs" "[LPoreField$WellLog;") (by decide +kernel)) (fun _ h9 => h9) rfl dX6_ofWell_29 ?_
  refine lv_iload_n hx hb dX6_ofWell_32 rfl (lv_at hl 2 rfl) ?_
  refine x_aald (b := (o + (103 + 2 * w))) hx hb hK.1 hP (by omega) (by omega) 3 (((gw_out (by omega)).trans ((gw_out (by omega)).trans (hw_99)))) rfl (cl_of_nI (i := w) rfl (by omega)) rfl (vp_in_of_nI (i := w) rfl (by omega) (by omega)) dX6_ofWell_33 ?_
  refine lv_astore (lv' := [(4, .ref (o + (103 + 2 * w))), (3, .ref ((o + 1) + (37 + 2 * w))), (0, .ref o), (1, .int (nI w)), (2, .int (0 : Int32))]) hx hb dX6_ofWell_34 hl (by decide) rfl (fun ls hl => ?_)
  refine lv_iload_n hx hb dX6_ofWell_36 rfl (lv_at hl 4 rfl) ?_
  refine lv_tableIn (tgt := 104) (off := 67) hx hb dX6_ofWell_37 (by decide) (by decide) (by decide) (by decide) ?_
  refine lv_aload_n hx hb dX6_ofWell_104 rfl (lv_at hl 1 rfl) ?_
  refine x_get (ref := RX4) (C := RX4) (T := TX4) (N := 5) (ci := 4) (v := .int (G (37 + 2 * w) 0)) hx hb hts iX4 hown hK.1 hP (by omega) (by omega) (gw_well (by omega)) rfl 0 (by decide) (hts (.fieldLink RX6 101 "PoreField$Well" "kind" "I") (by decide +kernel)) (fun _ h9 => h9) rfl dX6_ofWell_105 ?_
  exact W.iret (v := (G (37 + 2 * w) 0)) hx hb hr (fun tE ht hW => ⟨⟨(G (37 + 2 * w) 0), (), rfl, rfl, x_at ht (hP)⟩, hS.F ht⟩) hS.2.2 dX6_ofWell_108

set_option maxRecDepth 100000 in
set_option maxHeartbeats 4000000 in
/-- ofWell, 1 -/
theorem c_X6_ofWell_1 (l : Launch) (D : va_G) (cy : Nat → ClassId) (lo n : Nat) (w0 : Nat → va_E) (o : Nat) (G T P : Mem) (ho1 : lo ≤ o) (ho2 : o + 118 ≤ lo + n) (nd : Nat) (hG : GI nd G) (w : Nat) (hwl : w < nd)  : Met l yX6_ofWell wsX6_ofWell ({ frames := 1, cells := 0, slots := 0, locals := 22 }) (PcW D cy lo n (gw cy (gw cy (hw cy w0 o P) (o + 50) T) (o + 1) G) [.ref o, .int (nI w), .int (1 : Int32)]) (QiW D lo n (gw cy (gw cy (hw cy w0 o P) (o + 50) T) (o + 1) G) (m_ofWell G P w 1)) 0 0 (fun q : Nat => lo ≤ q) := by
  refine Met.ofW (cc := cX6_ofWell) (maxL := 5) (ret := (some .int)) (by decide) rfl ?_
  intro p e s m args below meth c s₁ B hml hv
  obtain ⟨rfl, hP, hK, hS⟩ := x_entry hv
  have hx := B.exec
  have hb := B.bytes
  have hr := B.returns
  have hts := atoms_spec (ws := wsX6_ofWell) B.pre
  have hown : s.vm.findClass RX6 = some m.cls := findClass_of_methodNamed B.named
  have hlocks := B.notSynchronized
  have iX2 : ∀ w ∈ u_ws RX2 TX2 12, w ∈ wsX6_ofWell := by decide +kernel
  have iX4 : ∀ w ∈ u_ws RX4 TX4 5, w ∈ wsX6_ofWell := by decide +kernel
  have iX6 : ∀ w ∈ u_ws RX6 TX6 11, w ∈ wsX6_ofWell := by decide +kernel
  have hl := lv_entry ([.ref o, .int (nI w), .int (1 : Int32)]) (n := 5) (Nat.le_of_ble_eq_true rfl)
  rw [lg_entry_eq]
  generalize (lg_sl ([.ref o, .int (nI w), .int (1 : Int32)]) ++ List.replicate (5 - (lg_sl ([.ref o, .int (nI w), .int (1 : Int32)])).length) Slot.unset).toArray = ls at hl ⊢
  have hl : lv_has ls 5 [(0, .ref o), (1, .int (nI w)), (2, .int (1 : Int32))] := hl
  have hnd := hG.1
  refine lv_iload_n hx hb dX6_ofWell_0 rfl (lv_at hl 1 rfl) ?_
  refine lv_aload_n hx hb dX6_ofWell_1 rfl (lv_at hl 0 rfl) ?_
  refine x_get (ref := RX6) (C := RX6) (T := TX6) (N := 11) (ci := 6) (v := .ref (o + 1)) hx hb hts iX6 hown hK.1 hP (by omega) (by omega) (((gw_out (by omega)).trans ((gw_out (by omega)).trans (hw_0)))) rfl 0 (by decide) (hts (.fieldLink RX6 10 "PoreField" "ground" "LPoreField$Ground;") (by decide +kernel)) (fun _ h9 => h9) rfl dX6_ofWell_2 ?_
  refine x_get (ref := RX2) (C := RX2) (T := TX2) (N := 12) (ci := 2) (v := .int (G 0 2)) hx hb hts iX2 hown hK.1 hP (by omega) (by omega) (gw_0) rfl 2 (by decide) (hts (.fieldLink RX6 87 "PoreField$Ground" "drilled" "I") (by decide +kernel)) (fun _ h9 => h9) rfl dX6_ofWell_5 ?_
  refine x_callv (va_runS (As := [.int (nI w), .int (G 0 2)]) (rest := []) ⟨hx, hb, hml, hown, hts⟩ (c_X6_needIndex l D cy lo n (gw cy (gw cy (hw cy w0 o P) (o + 50) T) (o + 1) G) w nd (by omega) (by omega) (nI w) (G 0 2) rfl hG.dr) (va_cwS 2 hts gX6_ofWell_X6_needIndex rfl rfl rfl (by decide +kernel) ⟨Nat.le_of_ble_eq_true rfl, Nat.le_of_ble_eq_true rfl⟩) (preS hP hK) rfl rfl hl.1 rfl (lv_room (Nat.le_of_ble_eq_true rfl)) dX6_ofWell_8 ⟨Nat.le_of_ble_eq_true rfl, Nat.le_of_ble_eq_true rfl⟩) hS (fun H locs hP hS => ?_)
  refine lv_iload_n hx hb dX6_ofWell_11 rfl (lv_at hl 2 rfl) ?_
  refine lv_iconst (v := 0) hx hb dX6_ofWell_12 (by decide) ?_
  refine lv_bipush (v := 13) hx hb dX6_ofWell_13 (by decide) ?_
  refine x_callv (va_runS (As := [.int (1 : Int32), .int (0 : Int32), .int (13 : Int32)]) (rest := []) ⟨hx, hb, hml, hown, hts⟩ (c_X6_needWithin l D cy lo n (gw cy (gw cy (hw cy w0 o P) (o + 50) T) (o + 1) G) (1 : Int32) (0 : Int32) (13 : Int32) ((br_le (show (0 : Int32) = nI 0 from rfl) (show (1 : Int32) = nI 1 from rfl) (by omega) (by omega)).mpr (by omega)) ((br_le (show (1 : Int32) = nI 1 from rfl) (show (13 : Int32) = nI 13 from rfl) (by omega) (by omega)).mpr (by omega))) (va_cwS 3 hts gX6_ofWell_X6_needWithin rfl rfl rfl (by decide +kernel) ⟨Nat.le_of_ble_eq_true rfl, Nat.le_of_ble_eq_true rfl⟩) (preS hP hK) rfl rfl hl.1 rfl (lv_room (Nat.le_of_ble_eq_true rfl)) dX6_ofWell_15 ⟨Nat.le_of_ble_eq_true rfl, Nat.le_of_ble_eq_true rfl⟩) hS (fun H locs hP hS => ?_)
  refine lv_aload_n hx hb dX6_ofWell_18 rfl (lv_at hl 0 rfl) ?_
  refine x_get (ref := RX6) (C := RX6) (T := TX6) (N := 11) (ci := 6) (v := .ref (o + 1)) hx hb hts iX6 hown hK.1 hP (by omega) (by omega) (((gw_out (by omega)).trans ((gw_out (by omega)).trans (hw_0)))) rfl 0 (by decide) (hts (.fieldLink RX6 10 "PoreField" "ground" "LPoreField$Ground;") (by decide +kernel)) (fun _ h9 => h9) rfl dX6_ofWell_19 ?_
  refine x_get (ref := RX2) (C := RX2) (T := TX2) (N := 12) (ci := 2) (v := .ref ((o + 1) + 2)) hx hb hts iX2 hown hK.1 hP (by omega) (by omega) (gw_0) rfl 1 (by decide) (hts (.fieldLink RX6 97 "PoreField$Ground" "wells" "[LPoreField$Well;") (by decide +kernel)) (fun _ h9 => h9) rfl dX6_ofWell_22 ?_
  refine lv_iload_n hx hb dX6_ofWell_25 rfl (lv_at hl 1 rfl) ?_
  refine x_aald (b := ((o + 1) + (37 + 2 * w))) hx hb hK.1 hP (by omega) (by omega) 2 (gw_2) rfl (cl_of_nI (i := w) rfl (by omega)) rfl (vp_in_of_nI (i := w) rfl (by omega) (by omega)) dX6_ofWell_26 ?_
  refine lv_astore_n (lv' := [(3, .ref ((o + 1) + (37 + 2 * w))), (0, .ref o), (1, .int (nI w)), (2, .int (1 : Int32))]) hx hb dX6_ofWell_27 rfl hl (by decide) rfl (fun ls hl => ?_)
  refine lv_aload_n hx hb dX6_ofWell_28 rfl (lv_at hl 1 rfl) ?_
  refine x_get (ref := RX6) (C := RX6) (T := TX6) (N := 11) (ci := 6) (v := .ref (o + 99)) hx hb hts iX6 hown hK.1 hP (by omega) (by omega) (((gw_out (by omega)).trans ((gw_out (by omega)).trans (hw_0)))) rfl 2 (by decide) (hts (.fieldLink RX6 21 "PoreField" "logs" "[LPoreField$WellLog;") (by decide +kernel)) (fun _ h9 => h9) rfl dX6_ofWell_29 ?_
  refine lv_iload_n hx hb dX6_ofWell_32 rfl (lv_at hl 2 rfl) ?_
  refine x_aald (b := (o + (103 + 2 * w))) hx hb hK.1 hP (by omega) (by omega) 3 (((gw_out (by omega)).trans ((gw_out (by omega)).trans (hw_99)))) rfl (cl_of_nI (i := w) rfl (by omega)) rfl (vp_in_of_nI (i := w) rfl (by omega) (by omega)) dX6_ofWell_33 ?_
  refine lv_astore (lv' := [(4, .ref (o + (103 + 2 * w))), (3, .ref ((o + 1) + (37 + 2 * w))), (0, .ref o), (1, .int (nI w)), (2, .int (1 : Int32))]) hx hb dX6_ofWell_34 hl (by decide) rfl (fun ls hl => ?_)
  refine lv_iload_n hx hb dX6_ofWell_36 rfl (lv_at hl 4 rfl) ?_
  refine lv_tableIn (tgt := 109) (off := 72) hx hb dX6_ofWell_37 (by decide) (by decide) (by decide) (by decide) ?_
  refine lv_aload_n hx hb dX6_ofWell_109 rfl (lv_at hl 1 rfl) ?_
  have hcx := hG.cx (w := w) (by omega)
  refine x_get (ref := RX4) (C := RX4) (T := TX4) (N := 5) (ci := 4) (v := .int (G (37 + 2 * w) 1)) hx hb hts iX4 hown hK.1 hP (by omega) (by omega) (gw_well (by omega)) rfl 1 (by decide) (hts (.fieldLink RX6 106 "PoreField$Well" "cell" "I") (by decide +kernel)) (fun _ h9 => h9) rfl dX6_ofWell_110 ?_
  exact W.iret (v := (G (37 + 2 * w) 1)) hx hb hr (fun tE ht hW => ⟨⟨(G (37 + 2 * w) 1), (), rfl, rfl, x_at ht (hP)⟩, hS.F ht⟩) hS.2.2 dX6_ofWell_113

set_option maxRecDepth 100000 in
set_option maxHeartbeats 4000000 in
/-- ofWell, 2 -/
theorem c_X6_ofWell_2 (l : Launch) (D : va_G) (cy : Nat → ClassId) (lo n : Nat) (w0 : Nat → va_E) (o : Nat) (G T P : Mem) (ho1 : lo ≤ o) (ho2 : o + 118 ≤ lo + n) (nd : Nat) (hG : GI nd G) (w : Nat) (hwl : w < nd)  : Met l yX6_ofWell wsX6_ofWell ({ frames := 1, cells := 0, slots := 0, locals := 22 }) (PcW D cy lo n (gw cy (gw cy (hw cy w0 o P) (o + 50) T) (o + 1) G) [.ref o, .int (nI w), .int (2 : Int32)]) (QiW D lo n (gw cy (gw cy (hw cy w0 o P) (o + 50) T) (o + 1) G) (m_ofWell G P w 2)) 0 0 (fun q : Nat => lo ≤ q) := by
  refine Met.ofW (cc := cX6_ofWell) (maxL := 5) (ret := (some .int)) (by decide) rfl ?_
  intro p e s m args below meth c s₁ B hml hv
  obtain ⟨rfl, hP, hK, hS⟩ := x_entry hv
  have hx := B.exec
  have hb := B.bytes
  have hr := B.returns
  have hts := atoms_spec (ws := wsX6_ofWell) B.pre
  have hown : s.vm.findClass RX6 = some m.cls := findClass_of_methodNamed B.named
  have hlocks := B.notSynchronized
  have iX2 : ∀ w ∈ u_ws RX2 TX2 12, w ∈ wsX6_ofWell := by decide +kernel
  have iX4 : ∀ w ∈ u_ws RX4 TX4 5, w ∈ wsX6_ofWell := by decide +kernel
  have iX6 : ∀ w ∈ u_ws RX6 TX6 11, w ∈ wsX6_ofWell := by decide +kernel
  have hl := lv_entry ([.ref o, .int (nI w), .int (2 : Int32)]) (n := 5) (Nat.le_of_ble_eq_true rfl)
  rw [lg_entry_eq]
  generalize (lg_sl ([.ref o, .int (nI w), .int (2 : Int32)]) ++ List.replicate (5 - (lg_sl ([.ref o, .int (nI w), .int (2 : Int32)])).length) Slot.unset).toArray = ls at hl ⊢
  have hl : lv_has ls 5 [(0, .ref o), (1, .int (nI w)), (2, .int (2 : Int32))] := hl
  have hnd := hG.1
  refine lv_iload_n hx hb dX6_ofWell_0 rfl (lv_at hl 1 rfl) ?_
  refine lv_aload_n hx hb dX6_ofWell_1 rfl (lv_at hl 0 rfl) ?_
  refine x_get (ref := RX6) (C := RX6) (T := TX6) (N := 11) (ci := 6) (v := .ref (o + 1)) hx hb hts iX6 hown hK.1 hP (by omega) (by omega) (((gw_out (by omega)).trans ((gw_out (by omega)).trans (hw_0)))) rfl 0 (by decide) (hts (.fieldLink RX6 10 "PoreField" "ground" "LPoreField$Ground;") (by decide +kernel)) (fun _ h9 => h9) rfl dX6_ofWell_2 ?_
  refine x_get (ref := RX2) (C := RX2) (T := TX2) (N := 12) (ci := 2) (v := .int (G 0 2)) hx hb hts iX2 hown hK.1 hP (by omega) (by omega) (gw_0) rfl 2 (by decide) (hts (.fieldLink RX6 87 "PoreField$Ground" "drilled" "I") (by decide +kernel)) (fun _ h9 => h9) rfl dX6_ofWell_5 ?_
  refine x_callv (va_runS (As := [.int (nI w), .int (G 0 2)]) (rest := []) ⟨hx, hb, hml, hown, hts⟩ (c_X6_needIndex l D cy lo n (gw cy (gw cy (hw cy w0 o P) (o + 50) T) (o + 1) G) w nd (by omega) (by omega) (nI w) (G 0 2) rfl hG.dr) (va_cwS 2 hts gX6_ofWell_X6_needIndex rfl rfl rfl (by decide +kernel) ⟨Nat.le_of_ble_eq_true rfl, Nat.le_of_ble_eq_true rfl⟩) (preS hP hK) rfl rfl hl.1 rfl (lv_room (Nat.le_of_ble_eq_true rfl)) dX6_ofWell_8 ⟨Nat.le_of_ble_eq_true rfl, Nat.le_of_ble_eq_true rfl⟩) hS (fun H locs hP hS => ?_)
  refine lv_iload_n hx hb dX6_ofWell_11 rfl (lv_at hl 2 rfl) ?_
  refine lv_iconst (v := 0) hx hb dX6_ofWell_12 (by decide) ?_
  refine lv_bipush (v := 13) hx hb dX6_ofWell_13 (by decide) ?_
  refine x_callv (va_runS (As := [.int (2 : Int32), .int (0 : Int32), .int (13 : Int32)]) (rest := []) ⟨hx, hb, hml, hown, hts⟩ (c_X6_needWithin l D cy lo n (gw cy (gw cy (hw cy w0 o P) (o + 50) T) (o + 1) G) (2 : Int32) (0 : Int32) (13 : Int32) ((br_le (show (0 : Int32) = nI 0 from rfl) (show (2 : Int32) = nI 2 from rfl) (by omega) (by omega)).mpr (by omega)) ((br_le (show (2 : Int32) = nI 2 from rfl) (show (13 : Int32) = nI 13 from rfl) (by omega) (by omega)).mpr (by omega))) (va_cwS 3 hts gX6_ofWell_X6_needWithin rfl rfl rfl (by decide +kernel) ⟨Nat.le_of_ble_eq_true rfl, Nat.le_of_ble_eq_true rfl⟩) (preS hP hK) rfl rfl hl.1 rfl (lv_room (Nat.le_of_ble_eq_true rfl)) dX6_ofWell_15 ⟨Nat.le_of_ble_eq_true rfl, Nat.le_of_ble_eq_true rfl⟩) hS (fun H locs hP hS => ?_)
  refine lv_aload_n hx hb dX6_ofWell_18 rfl (lv_at hl 0 rfl) ?_
  refine x_get (ref := RX6) (C := RX6) (T := TX6) (N := 11) (ci := 6) (v := .ref (o + 1)) hx hb hts iX6 hown hK.1 hP (by omega) (by omega) (((gw_out (by omega)).trans ((gw_out (by omega)).trans (hw_0)))) rfl 0 (by decide) (hts (.fieldLink RX6 10 "PoreField" "ground" "LPoreField$Ground;") (by decide +kernel)) (fun _ h9 => h9) rfl dX6_ofWell_19 ?_
  refine x_get (ref := RX2) (C := RX2) (T := TX2) (N := 12) (ci := 2) (v := .ref ((o + 1) + 2)) hx hb hts iX2 hown hK.1 hP (by omega) (by omega) (gw_0) rfl 1 (by decide) (hts (.fieldLink RX6 97 "PoreField$Ground" "wells" "[LPoreField$Well;") (by decide +kernel)) (fun _ h9 => h9) rfl dX6_ofWell_22 ?_
  refine lv_iload_n hx hb dX6_ofWell_25 rfl (lv_at hl 1 rfl) ?_
  refine x_aald (b := ((o + 1) + (37 + 2 * w))) hx hb hK.1 hP (by omega) (by omega) 2 (gw_2) rfl (cl_of_nI (i := w) rfl (by omega)) rfl (vp_in_of_nI (i := w) rfl (by omega) (by omega)) dX6_ofWell_26 ?_
  refine lv_astore_n (lv' := [(3, .ref ((o + 1) + (37 + 2 * w))), (0, .ref o), (1, .int (nI w)), (2, .int (2 : Int32))]) hx hb dX6_ofWell_27 rfl hl (by decide) rfl (fun ls hl => ?_)
  refine lv_aload_n hx hb dX6_ofWell_28 rfl (lv_at hl 1 rfl) ?_
  refine x_get (ref := RX6) (C := RX6) (T := TX6) (N := 11) (ci := 6) (v := .ref (o + 99)) hx hb hts iX6 hown hK.1 hP (by omega) (by omega) (((gw_out (by omega)).trans ((gw_out (by omega)).trans (hw_0)))) rfl 2 (by decide) (hts (.fieldLink RX6 21 "PoreField" "logs" "[LPoreField$WellLog;") (by decide +kernel)) (fun _ h9 => h9) rfl dX6_ofWell_29 ?_
  refine lv_iload_n hx hb dX6_ofWell_32 rfl (lv_at hl 2 rfl) ?_
  refine x_aald (b := (o + (103 + 2 * w))) hx hb hK.1 hP (by omega) (by omega) 3 (((gw_out (by omega)).trans ((gw_out (by omega)).trans (hw_99)))) rfl (cl_of_nI (i := w) rfl (by omega)) rfl (vp_in_of_nI (i := w) rfl (by omega) (by omega)) dX6_ofWell_33 ?_
  refine lv_astore (lv' := [(4, .ref (o + (103 + 2 * w))), (3, .ref ((o + 1) + (37 + 2 * w))), (0, .ref o), (1, .int (nI w)), (2, .int (2 : Int32))]) hx hb dX6_ofWell_34 hl (by decide) rfl (fun ls hl => ?_)
  refine lv_iload_n hx hb dX6_ofWell_36 rfl (lv_at hl 4 rfl) ?_
  refine lv_tableIn (tgt := 114) (off := 77) hx hb dX6_ofWell_37 (by decide) (by decide) (by decide) (by decide) ?_
  refine lv_aload_n hx hb dX6_ofWell_114 rfl (lv_at hl 1 rfl) ?_
  refine x_get (ref := RX4) (C := RX4) (T := TX4) (N := 5) (ci := 4) (v := .int (G (37 + 2 * w) 2)) hx hb hts iX4 hown hK.1 hP (by omega) (by omega) (gw_well (by omega)) rfl 2 (by decide) (hts (.fieldLink RX6 113 "PoreField$Well" "choke" "I") (by decide +kernel)) (fun _ h9 => h9) rfl dX6_ofWell_115 ?_
  exact W.iret (v := (G (37 + 2 * w) 2)) hx hb hr (fun tE ht hW => ⟨⟨(G (37 + 2 * w) 2), (), rfl, rfl, x_at ht (hP)⟩, hS.F ht⟩) hS.2.2 dX6_ofWell_118

set_option maxRecDepth 100000 in
set_option maxHeartbeats 4000000 in
/-- ofWell, 3 -/
theorem c_X6_ofWell_3 (l : Launch) (D : va_G) (cy : Nat → ClassId) (lo n : Nat) (w0 : Nat → va_E) (o : Nat) (G T P : Mem) (ho1 : lo ≤ o) (ho2 : o + 118 ≤ lo + n) (nd : Nat) (hG : GI nd G) (w : Nat) (hwl : w < nd)  : Met l yX6_ofWell wsX6_ofWell ({ frames := 1, cells := 0, slots := 0, locals := 22 }) (PcW D cy lo n (gw cy (gw cy (hw cy w0 o P) (o + 50) T) (o + 1) G) [.ref o, .int (nI w), .int (3 : Int32)]) (QiW D lo n (gw cy (gw cy (hw cy w0 o P) (o + 50) T) (o + 1) G) (m_ofWell G P w 3)) 0 0 (fun q : Nat => lo ≤ q) := by
  refine Met.ofW (cc := cX6_ofWell) (maxL := 5) (ret := (some .int)) (by decide) rfl ?_
  intro p e s m args below meth c s₁ B hml hv
  obtain ⟨rfl, hP, hK, hS⟩ := x_entry hv
  have hx := B.exec
  have hb := B.bytes
  have hr := B.returns
  have hts := atoms_spec (ws := wsX6_ofWell) B.pre
  have hown : s.vm.findClass RX6 = some m.cls := findClass_of_methodNamed B.named
  have hlocks := B.notSynchronized
  have iX2 : ∀ w ∈ u_ws RX2 TX2 12, w ∈ wsX6_ofWell := by decide +kernel
  have iX4 : ∀ w ∈ u_ws RX4 TX4 5, w ∈ wsX6_ofWell := by decide +kernel
  have iX6 : ∀ w ∈ u_ws RX6 TX6 11, w ∈ wsX6_ofWell := by decide +kernel
  have hl := lv_entry ([.ref o, .int (nI w), .int (3 : Int32)]) (n := 5) (Nat.le_of_ble_eq_true rfl)
  rw [lg_entry_eq]
  generalize (lg_sl ([.ref o, .int (nI w), .int (3 : Int32)]) ++ List.replicate (5 - (lg_sl ([.ref o, .int (nI w), .int (3 : Int32)])).length) Slot.unset).toArray = ls at hl ⊢
  have hl : lv_has ls 5 [(0, .ref o), (1, .int (nI w)), (2, .int (3 : Int32))] := hl
  have hnd := hG.1
  refine lv_iload_n hx hb dX6_ofWell_0 rfl (lv_at hl 1 rfl) ?_
  refine lv_aload_n hx hb dX6_ofWell_1 rfl (lv_at hl 0 rfl) ?_
  refine x_get (ref := RX6) (C := RX6) (T := TX6) (N := 11) (ci := 6) (v := .ref (o + 1)) hx hb hts iX6 hown hK.1 hP (by omega) (by omega) (((gw_out (by omega)).trans ((gw_out (by omega)).trans (hw_0)))) rfl 0 (by decide) (hts (.fieldLink RX6 10 "PoreField" "ground" "LPoreField$Ground;") (by decide +kernel)) (fun _ h9 => h9) rfl dX6_ofWell_2 ?_
  refine x_get (ref := RX2) (C := RX2) (T := TX2) (N := 12) (ci := 2) (v := .int (G 0 2)) hx hb hts iX2 hown hK.1 hP (by omega) (by omega) (gw_0) rfl 2 (by decide) (hts (.fieldLink RX6 87 "PoreField$Ground" "drilled" "I") (by decide +kernel)) (fun _ h9 => h9) rfl dX6_ofWell_5 ?_
  refine x_callv (va_runS (As := [.int (nI w), .int (G 0 2)]) (rest := []) ⟨hx, hb, hml, hown, hts⟩ (c_X6_needIndex l D cy lo n (gw cy (gw cy (hw cy w0 o P) (o + 50) T) (o + 1) G) w nd (by omega) (by omega) (nI w) (G 0 2) rfl hG.dr) (va_cwS 2 hts gX6_ofWell_X6_needIndex rfl rfl rfl (by decide +kernel) ⟨Nat.le_of_ble_eq_true rfl, Nat.le_of_ble_eq_true rfl⟩) (preS hP hK) rfl rfl hl.1 rfl (lv_room (Nat.le_of_ble_eq_true rfl)) dX6_ofWell_8 ⟨Nat.le_of_ble_eq_true rfl, Nat.le_of_ble_eq_true rfl⟩) hS (fun H locs hP hS => ?_)
  refine lv_iload_n hx hb dX6_ofWell_11 rfl (lv_at hl 2 rfl) ?_
  refine lv_iconst (v := 0) hx hb dX6_ofWell_12 (by decide) ?_
  refine lv_bipush (v := 13) hx hb dX6_ofWell_13 (by decide) ?_
  refine x_callv (va_runS (As := [.int (3 : Int32), .int (0 : Int32), .int (13 : Int32)]) (rest := []) ⟨hx, hb, hml, hown, hts⟩ (c_X6_needWithin l D cy lo n (gw cy (gw cy (hw cy w0 o P) (o + 50) T) (o + 1) G) (3 : Int32) (0 : Int32) (13 : Int32) ((br_le (show (0 : Int32) = nI 0 from rfl) (show (3 : Int32) = nI 3 from rfl) (by omega) (by omega)).mpr (by omega)) ((br_le (show (3 : Int32) = nI 3 from rfl) (show (13 : Int32) = nI 13 from rfl) (by omega) (by omega)).mpr (by omega))) (va_cwS 3 hts gX6_ofWell_X6_needWithin rfl rfl rfl (by decide +kernel) ⟨Nat.le_of_ble_eq_true rfl, Nat.le_of_ble_eq_true rfl⟩) (preS hP hK) rfl rfl hl.1 rfl (lv_room (Nat.le_of_ble_eq_true rfl)) dX6_ofWell_15 ⟨Nat.le_of_ble_eq_true rfl, Nat.le_of_ble_eq_true rfl⟩) hS (fun H locs hP hS => ?_)
  refine lv_aload_n hx hb dX6_ofWell_18 rfl (lv_at hl 0 rfl) ?_
  refine x_get (ref := RX6) (C := RX6) (T := TX6) (N := 11) (ci := 6) (v := .ref (o + 1)) hx hb hts iX6 hown hK.1 hP (by omega) (by omega) (((gw_out (by omega)).trans ((gw_out (by omega)).trans (hw_0)))) rfl 0 (by decide) (hts (.fieldLink RX6 10 "PoreField" "ground" "LPoreField$Ground;") (by decide +kernel)) (fun _ h9 => h9) rfl dX6_ofWell_19 ?_
  refine x_get (ref := RX2) (C := RX2) (T := TX2) (N := 12) (ci := 2) (v := .ref ((o + 1) + 2)) hx hb hts iX2 hown hK.1 hP (by omega) (by omega) (gw_0) rfl 1 (by decide) (hts (.fieldLink RX6 97 "PoreField$Ground" "wells" "[LPoreField$Well;") (by decide +kernel)) (fun _ h9 => h9) rfl dX6_ofWell_22 ?_
  refine lv_iload_n hx hb dX6_ofWell_25 rfl (lv_at hl 1 rfl) ?_
  refine x_aald (b := ((o + 1) + (37 + 2 * w))) hx hb hK.1 hP (by omega) (by omega) 2 (gw_2) rfl (cl_of_nI (i := w) rfl (by omega)) rfl (vp_in_of_nI (i := w) rfl (by omega) (by omega)) dX6_ofWell_26 ?_
  refine lv_astore_n (lv' := [(3, .ref ((o + 1) + (37 + 2 * w))), (0, .ref o), (1, .int (nI w)), (2, .int (3 : Int32))]) hx hb dX6_ofWell_27 rfl hl (by decide) rfl (fun ls hl => ?_)
  refine lv_aload_n hx hb dX6_ofWell_28 rfl (lv_at hl 1 rfl) ?_
  refine x_get (ref := RX6) (C := RX6) (T := TX6) (N := 11) (ci := 6) (v := .ref (o + 99)) hx hb hts iX6 hown hK.1 hP (by omega) (by omega) (((gw_out (by omega)).trans ((gw_out (by omega)).trans (hw_0)))) rfl 2 (by decide) (hts (.fieldLink RX6 21 "PoreField" "logs" "[LPoreField$WellLog;") (by decide +kernel)) (fun _ h9 => h9) rfl dX6_ofWell_29 ?_
  refine lv_iload_n hx hb dX6_ofWell_32 rfl (lv_at hl 2 rfl) ?_
  refine x_aald (b := (o + (103 + 2 * w))) hx hb hK.1 hP (by omega) (by omega) 3 (((gw_out (by omega)).trans ((gw_out (by omega)).trans (hw_99)))) rfl (cl_of_nI (i := w) rfl (by omega)) rfl (vp_in_of_nI (i := w) rfl (by omega) (by omega)) dX6_ofWell_33 ?_
  refine lv_astore (lv' := [(4, .ref (o + (103 + 2 * w))), (3, .ref ((o + 1) + (37 + 2 * w))), (0, .ref o), (1, .int (nI w)), (2, .int (3 : Int32))]) hx hb dX6_ofWell_34 hl (by decide) rfl (fun ls hl => ?_)
  refine lv_iload_n hx hb dX6_ofWell_36 rfl (lv_at hl 4 rfl) ?_
  refine lv_tableIn (tgt := 119) (off := 82) hx hb dX6_ofWell_37 (by decide) (by decide) (by decide) (by decide) ?_
  refine lv_aload_n hx hb dX6_ofWell_119 rfl (lv_at hl 1 rfl) ?_
  refine x_get (ref := RX4) (C := RX4) (T := TX4) (N := 5) (ci := 4) (v := .int (G (37 + 2 * w) 3)) hx hb hts iX4 hown hK.1 hP (by omega) (by omega) (gw_well (by omega)) rfl 3 (by decide) (hts (.fieldLink RX6 116 "PoreField$Well" "rank" "I") (by decide +kernel)) (fun _ h9 => h9) rfl dX6_ofWell_120 ?_
  exact W.iret (v := (G (37 + 2 * w) 3)) hx hb hr (fun tE ht hW => ⟨⟨(G (37 + 2 * w) 3), (), rfl, rfl, x_at ht (hP)⟩, hS.F ht⟩) hS.2.2 dX6_ofWell_123

set_option maxRecDepth 100000 in
set_option maxHeartbeats 4000000 in
/-- ofWell, 4 -/
theorem c_X6_ofWell_4 (l : Launch) (D : va_G) (cy : Nat → ClassId) (lo n : Nat) (w0 : Nat → va_E) (o : Nat) (G T P : Mem) (ho1 : lo ≤ o) (ho2 : o + 118 ≤ lo + n) (nd : Nat) (hG : GI nd G) (w : Nat) (hwl : w < nd)  : Met l yX6_ofWell wsX6_ofWell ({ frames := 1, cells := 0, slots := 0, locals := 22 }) (PcW D cy lo n (gw cy (gw cy (hw cy w0 o P) (o + 50) T) (o + 1) G) [.ref o, .int (nI w), .int (4 : Int32)]) (QiW D lo n (gw cy (gw cy (hw cy w0 o P) (o + 50) T) (o + 1) G) (m_ofWell G P w 4)) 0 0 (fun q : Nat => lo ≤ q) := by
  refine Met.ofW (cc := cX6_ofWell) (maxL := 5) (ret := (some .int)) (by decide) rfl ?_
  intro p e s m args below meth c s₁ B hml hv
  obtain ⟨rfl, hP, hK, hS⟩ := x_entry hv
  have hx := B.exec
  have hb := B.bytes
  have hr := B.returns
  have hts := atoms_spec (ws := wsX6_ofWell) B.pre
  have hown : s.vm.findClass RX6 = some m.cls := findClass_of_methodNamed B.named
  have hlocks := B.notSynchronized
  have iX2 : ∀ w ∈ u_ws RX2 TX2 12, w ∈ wsX6_ofWell := by decide +kernel
  have iX5 : ∀ w ∈ u_ws RX5 TX5 5, w ∈ wsX6_ofWell := by decide +kernel
  have iX6 : ∀ w ∈ u_ws RX6 TX6 11, w ∈ wsX6_ofWell := by decide +kernel
  have hl := lv_entry ([.ref o, .int (nI w), .int (4 : Int32)]) (n := 5) (Nat.le_of_ble_eq_true rfl)
  rw [lg_entry_eq]
  generalize (lg_sl ([.ref o, .int (nI w), .int (4 : Int32)]) ++ List.replicate (5 - (lg_sl ([.ref o, .int (nI w), .int (4 : Int32)])).length) Slot.unset).toArray = ls at hl ⊢
  have hl : lv_has ls 5 [(0, .ref o), (1, .int (nI w)), (2, .int (4 : Int32))] := hl
  have hnd := hG.1
  refine lv_iload_n hx hb dX6_ofWell_0 rfl (lv_at hl 1 rfl) ?_
  refine lv_aload_n hx hb dX6_ofWell_1 rfl (lv_at hl 0 rfl) ?_
  refine x_get (ref := RX6) (C := RX6) (T := TX6) (N := 11) (ci := 6) (v := .ref (o + 1)) hx hb hts iX6 hown hK.1 hP (by omega) (by omega) (((gw_out (by omega)).trans ((gw_out (by omega)).trans (hw_0)))) rfl 0 (by decide) (hts (.fieldLink RX6 10 "PoreField" "ground" "LPoreField$Ground;") (by decide +kernel)) (fun _ h9 => h9) rfl dX6_ofWell_2 ?_
  refine x_get (ref := RX2) (C := RX2) (T := TX2) (N := 12) (ci := 2) (v := .int (G 0 2)) hx hb hts iX2 hown hK.1 hP (by omega) (by omega) (gw_0) rfl 2 (by decide) (hts (.fieldLink RX6 87 "PoreField$Ground" "drilled" "I") (by decide +kernel)) (fun _ h9 => h9) rfl dX6_ofWell_5 ?_
  refine x_callv (va_runS (As := [.int (nI w), .int (G 0 2)]) (rest := []) ⟨hx, hb, hml, hown, hts⟩ (c_X6_needIndex l D cy lo n (gw cy (gw cy (hw cy w0 o P) (o + 50) T) (o + 1) G) w nd (by omega) (by omega) (nI w) (G 0 2) rfl hG.dr) (va_cwS 2 hts gX6_ofWell_X6_needIndex rfl rfl rfl (by decide +kernel) ⟨Nat.le_of_ble_eq_true rfl, Nat.le_of_ble_eq_true rfl⟩) (preS hP hK) rfl rfl hl.1 rfl (lv_room (Nat.le_of_ble_eq_true rfl)) dX6_ofWell_8 ⟨Nat.le_of_ble_eq_true rfl, Nat.le_of_ble_eq_true rfl⟩) hS (fun H locs hP hS => ?_)
  refine lv_iload_n hx hb dX6_ofWell_11 rfl (lv_at hl 2 rfl) ?_
  refine lv_iconst (v := 0) hx hb dX6_ofWell_12 (by decide) ?_
  refine lv_bipush (v := 13) hx hb dX6_ofWell_13 (by decide) ?_
  refine x_callv (va_runS (As := [.int (4 : Int32), .int (0 : Int32), .int (13 : Int32)]) (rest := []) ⟨hx, hb, hml, hown, hts⟩ (c_X6_needWithin l D cy lo n (gw cy (gw cy (hw cy w0 o P) (o + 50) T) (o + 1) G) (4 : Int32) (0 : Int32) (13 : Int32) ((br_le (show (0 : Int32) = nI 0 from rfl) (show (4 : Int32) = nI 4 from rfl) (by omega) (by omega)).mpr (by omega)) ((br_le (show (4 : Int32) = nI 4 from rfl) (show (13 : Int32) = nI 13 from rfl) (by omega) (by omega)).mpr (by omega))) (va_cwS 3 hts gX6_ofWell_X6_needWithin rfl rfl rfl (by decide +kernel) ⟨Nat.le_of_ble_eq_true rfl, Nat.le_of_ble_eq_true rfl⟩) (preS hP hK) rfl rfl hl.1 rfl (lv_room (Nat.le_of_ble_eq_true rfl)) dX6_ofWell_15 ⟨Nat.le_of_ble_eq_true rfl, Nat.le_of_ble_eq_true rfl⟩) hS (fun H locs hP hS => ?_)
  refine lv_aload_n hx hb dX6_ofWell_18 rfl (lv_at hl 0 rfl) ?_
  refine x_get (ref := RX6) (C := RX6) (T := TX6) (N := 11) (ci := 6) (v := .ref (o + 1)) hx hb hts iX6 hown hK.1 hP (by omega) (by omega) (((gw_out (by omega)).trans ((gw_out (by omega)).trans (hw_0)))) rfl 0 (by decide) (hts (.fieldLink RX6 10 "PoreField" "ground" "LPoreField$Ground;") (by decide +kernel)) (fun _ h9 => h9) rfl dX6_ofWell_19 ?_
  refine x_get (ref := RX2) (C := RX2) (T := TX2) (N := 12) (ci := 2) (v := .ref ((o + 1) + 2)) hx hb hts iX2 hown hK.1 hP (by omega) (by omega) (gw_0) rfl 1 (by decide) (hts (.fieldLink RX6 97 "PoreField$Ground" "wells" "[LPoreField$Well;") (by decide +kernel)) (fun _ h9 => h9) rfl dX6_ofWell_22 ?_
  refine lv_iload_n hx hb dX6_ofWell_25 rfl (lv_at hl 1 rfl) ?_
  refine x_aald (b := ((o + 1) + (37 + 2 * w))) hx hb hK.1 hP (by omega) (by omega) 2 (gw_2) rfl (cl_of_nI (i := w) rfl (by omega)) rfl (vp_in_of_nI (i := w) rfl (by omega) (by omega)) dX6_ofWell_26 ?_
  refine lv_astore_n (lv' := [(3, .ref ((o + 1) + (37 + 2 * w))), (0, .ref o), (1, .int (nI w)), (2, .int (4 : Int32))]) hx hb dX6_ofWell_27 rfl hl (by decide) rfl (fun ls hl => ?_)
  refine lv_aload_n hx hb dX6_ofWell_28 rfl (lv_at hl 1 rfl) ?_
  refine x_get (ref := RX6) (C := RX6) (T := TX6) (N := 11) (ci := 6) (v := .ref (o + 99)) hx hb hts iX6 hown hK.1 hP (by omega) (by omega) (((gw_out (by omega)).trans ((gw_out (by omega)).trans (hw_0)))) rfl 2 (by decide) (hts (.fieldLink RX6 21 "PoreField" "logs" "[LPoreField$WellLog;") (by decide +kernel)) (fun _ h9 => h9) rfl dX6_ofWell_29 ?_
  refine lv_iload_n hx hb dX6_ofWell_32 rfl (lv_at hl 2 rfl) ?_
  refine x_aald (b := (o + (103 + 2 * w))) hx hb hK.1 hP (by omega) (by omega) 3 (((gw_out (by omega)).trans ((gw_out (by omega)).trans (hw_99)))) rfl (cl_of_nI (i := w) rfl (by omega)) rfl (vp_in_of_nI (i := w) rfl (by omega) (by omega)) dX6_ofWell_33 ?_
  refine lv_astore (lv' := [(4, .ref (o + (103 + 2 * w))), (3, .ref ((o + 1) + (37 + 2 * w))), (0, .ref o), (1, .int (nI w)), (2, .int (4 : Int32))]) hx hb dX6_ofWell_34 hl (by decide) rfl (fun ls hl => ?_)
  refine lv_iload_n hx hb dX6_ofWell_36 rfl (lv_at hl 4 rfl) ?_
  refine lv_tableIn (tgt := 124) (off := 87) hx hb dX6_ofWell_37 (by decide) (by decide) (by decide) (by decide) ?_
  refine lv_aload hx hb dX6_ofWell_124 (lv_at hl 0 rfl) ?_
  refine x_get (ref := RX5) (C := RX5) (T := TX5) (N := 5) (ci := 5) (v := .int (P (103 + 2 * w) 0)) hx hb hts iX5 hown hK.1 hP (by omega) (by omega) (((gw_out (by omega)).trans ((gw_out (by omega)).trans (hw_log (by omega))))) rfl 0 (by decide) (hts (.fieldLink RX6 125 "PoreField$WellLog" "isPlugged" "Z") (by decide +kernel)) (fun _ h9 => h9) rfl dX6_ofWell_126 ?_
  refine lv_if_eq (tgt := 136) hx hb dX6_ofWell_129 (by decide) (fun c_129 => ?_) (fun c_129 => ?_)
  · refine lv_iconst (v := 0) hx hb dX6_ofWell_136 (by decide) ?_
    exact W.iret (v := (0 : Int32)) hx hb hr (fun tE ht hW => ⟨⟨(0 : Int32), (), rfl, (by simp only [m_ofWell, if_pos c_129]), x_at ht (hP)⟩, hS.F ht⟩) hS.2.2 dX6_ofWell_137
  · refine lv_iconst (v := 1) hx hb dX6_ofWell_132 (by decide) ?_
    refine lv_goto (tgt := 137) hx hb dX6_ofWell_133 (by decide) ?_
    exact W.iret (v := (1 : Int32)) hx hb hr (fun tE ht hW => ⟨⟨(1 : Int32), (), rfl, (by simp only [m_ofWell, if_neg c_129]), x_at ht (hP)⟩, hS.F ht⟩) hS.2.2 dX6_ofWell_137

set_option maxRecDepth 100000 in
set_option maxHeartbeats 4000000 in
/-- ofWell, 5 -/
theorem c_X6_ofWell_5 (l : Launch) (D : va_G) (cy : Nat → ClassId) (lo n : Nat) (w0 : Nat → va_E) (o : Nat) (G T P : Mem) (ho1 : lo ≤ o) (ho2 : o + 118 ≤ lo + n) (nd : Nat) (hG : GI nd G) (w : Nat) (hwl : w < nd)  : Met l yX6_ofWell wsX6_ofWell ({ frames := 1, cells := 0, slots := 0, locals := 22 }) (PcW D cy lo n (gw cy (gw cy (hw cy w0 o P) (o + 50) T) (o + 1) G) [.ref o, .int (nI w), .int (5 : Int32)]) (QiW D lo n (gw cy (gw cy (hw cy w0 o P) (o + 50) T) (o + 1) G) (m_ofWell G P w 5)) 0 0 (fun q : Nat => lo ≤ q) := by
  refine Met.ofW (cc := cX6_ofWell) (maxL := 5) (ret := (some .int)) (by decide) rfl ?_
  intro p e s m args below meth c s₁ B hml hv
  obtain ⟨rfl, hP, hK, hS⟩ := x_entry hv
  have hx := B.exec
  have hb := B.bytes
  have hr := B.returns
  have hts := atoms_spec (ws := wsX6_ofWell) B.pre
  have hown : s.vm.findClass RX6 = some m.cls := findClass_of_methodNamed B.named
  have hlocks := B.notSynchronized
  have iX2 : ∀ w ∈ u_ws RX2 TX2 12, w ∈ wsX6_ofWell := by decide +kernel
  have iX5 : ∀ w ∈ u_ws RX5 TX5 5, w ∈ wsX6_ofWell := by decide +kernel
  have iX6 : ∀ w ∈ u_ws RX6 TX6 11, w ∈ wsX6_ofWell := by decide +kernel
  have hl := lv_entry ([.ref o, .int (nI w), .int (5 : Int32)]) (n := 5) (Nat.le_of_ble_eq_true rfl)
  rw [lg_entry_eq]
  generalize (lg_sl ([.ref o, .int (nI w), .int (5 : Int32)]) ++ List.replicate (5 - (lg_sl ([.ref o, .int (nI w), .int (5 : Int32)])).length) Slot.unset).toArray = ls at hl ⊢
  have hl : lv_has ls 5 [(0, .ref o), (1, .int (nI w)), (2, .int (5 : Int32))] := hl
  have hnd := hG.1
  refine lv_iload_n hx hb dX6_ofWell_0 rfl (lv_at hl 1 rfl) ?_
  refine lv_aload_n hx hb dX6_ofWell_1 rfl (lv_at hl 0 rfl) ?_
  refine x_get (ref := RX6) (C := RX6) (T := TX6) (N := 11) (ci := 6) (v := .ref (o + 1)) hx hb hts iX6 hown hK.1 hP (by omega) (by omega) (((gw_out (by omega)).trans ((gw_out (by omega)).trans (hw_0)))) rfl 0 (by decide) (hts (.fieldLink RX6 10 "PoreField" "ground" "LPoreField$Ground;") (by decide +kernel)) (fun _ h9 => h9) rfl dX6_ofWell_2 ?_
  refine x_get (ref := RX2) (C := RX2) (T := TX2) (N := 12) (ci := 2) (v := .int (G 0 2)) hx hb hts iX2 hown hK.1 hP (by omega) (by omega) (gw_0) rfl 2 (by decide) (hts (.fieldLink RX6 87 "PoreField$Ground" "drilled" "I") (by decide +kernel)) (fun _ h9 => h9) rfl dX6_ofWell_5 ?_
  refine x_callv (va_runS (As := [.int (nI w), .int (G 0 2)]) (rest := []) ⟨hx, hb, hml, hown, hts⟩ (c_X6_needIndex l D cy lo n (gw cy (gw cy (hw cy w0 o P) (o + 50) T) (o + 1) G) w nd (by omega) (by omega) (nI w) (G 0 2) rfl hG.dr) (va_cwS 2 hts gX6_ofWell_X6_needIndex rfl rfl rfl (by decide +kernel) ⟨Nat.le_of_ble_eq_true rfl, Nat.le_of_ble_eq_true rfl⟩) (preS hP hK) rfl rfl hl.1 rfl (lv_room (Nat.le_of_ble_eq_true rfl)) dX6_ofWell_8 ⟨Nat.le_of_ble_eq_true rfl, Nat.le_of_ble_eq_true rfl⟩) hS (fun H locs hP hS => ?_)
  refine lv_iload_n hx hb dX6_ofWell_11 rfl (lv_at hl 2 rfl) ?_
  refine lv_iconst (v := 0) hx hb dX6_ofWell_12 (by decide) ?_
  refine lv_bipush (v := 13) hx hb dX6_ofWell_13 (by decide) ?_
  refine x_callv (va_runS (As := [.int (5 : Int32), .int (0 : Int32), .int (13 : Int32)]) (rest := []) ⟨hx, hb, hml, hown, hts⟩ (c_X6_needWithin l D cy lo n (gw cy (gw cy (hw cy w0 o P) (o + 50) T) (o + 1) G) (5 : Int32) (0 : Int32) (13 : Int32) ((br_le (show (0 : Int32) = nI 0 from rfl) (show (5 : Int32) = nI 5 from rfl) (by omega) (by omega)).mpr (by omega)) ((br_le (show (5 : Int32) = nI 5 from rfl) (show (13 : Int32) = nI 13 from rfl) (by omega) (by omega)).mpr (by omega))) (va_cwS 3 hts gX6_ofWell_X6_needWithin rfl rfl rfl (by decide +kernel) ⟨Nat.le_of_ble_eq_true rfl, Nat.le_of_ble_eq_true rfl⟩) (preS hP hK) rfl rfl hl.1 rfl (lv_room (Nat.le_of_ble_eq_true rfl)) dX6_ofWell_15 ⟨Nat.le_of_ble_eq_true rfl, Nat.le_of_ble_eq_true rfl⟩) hS (fun H locs hP hS => ?_)
  refine lv_aload_n hx hb dX6_ofWell_18 rfl (lv_at hl 0 rfl) ?_
  refine x_get (ref := RX6) (C := RX6) (T := TX6) (N := 11) (ci := 6) (v := .ref (o + 1)) hx hb hts iX6 hown hK.1 hP (by omega) (by omega) (((gw_out (by omega)).trans ((gw_out (by omega)).trans (hw_0)))) rfl 0 (by decide) (hts (.fieldLink RX6 10 "PoreField" "ground" "LPoreField$Ground;") (by decide +kernel)) (fun _ h9 => h9) rfl dX6_ofWell_19 ?_
  refine x_get (ref := RX2) (C := RX2) (T := TX2) (N := 12) (ci := 2) (v := .ref ((o + 1) + 2)) hx hb hts iX2 hown hK.1 hP (by omega) (by omega) (gw_0) rfl 1 (by decide) (hts (.fieldLink RX6 97 "PoreField$Ground" "wells" "[LPoreField$Well;") (by decide +kernel)) (fun _ h9 => h9) rfl dX6_ofWell_22 ?_
  refine lv_iload_n hx hb dX6_ofWell_25 rfl (lv_at hl 1 rfl) ?_
  refine x_aald (b := ((o + 1) + (37 + 2 * w))) hx hb hK.1 hP (by omega) (by omega) 2 (gw_2) rfl (cl_of_nI (i := w) rfl (by omega)) rfl (vp_in_of_nI (i := w) rfl (by omega) (by omega)) dX6_ofWell_26 ?_
  refine lv_astore_n (lv' := [(3, .ref ((o + 1) + (37 + 2 * w))), (0, .ref o), (1, .int (nI w)), (2, .int (5 : Int32))]) hx hb dX6_ofWell_27 rfl hl (by decide) rfl (fun ls hl => ?_)
  refine lv_aload_n hx hb dX6_ofWell_28 rfl (lv_at hl 1 rfl) ?_
  refine x_get (ref := RX6) (C := RX6) (T := TX6) (N := 11) (ci := 6) (v := .ref (o + 99)) hx hb hts iX6 hown hK.1 hP (by omega) (by omega) (((gw_out (by omega)).trans ((gw_out (by omega)).trans (hw_0)))) rfl 2 (by decide) (hts (.fieldLink RX6 21 "PoreField" "logs" "[LPoreField$WellLog;") (by decide +kernel)) (fun _ h9 => h9) rfl dX6_ofWell_29 ?_
  refine lv_iload_n hx hb dX6_ofWell_32 rfl (lv_at hl 2 rfl) ?_
  refine x_aald (b := (o + (103 + 2 * w))) hx hb hK.1 hP (by omega) (by omega) 3 (((gw_out (by omega)).trans ((gw_out (by omega)).trans (hw_99)))) rfl (cl_of_nI (i := w) rfl (by omega)) rfl (vp_in_of_nI (i := w) rfl (by omega) (by omega)) dX6_ofWell_33 ?_
  refine lv_astore (lv' := [(4, .ref (o + (103 + 2 * w))), (3, .ref ((o + 1) + (37 + 2 * w))), (0, .ref o), (1, .int (nI w)), (2, .int (5 : Int32))]) hx hb dX6_ofWell_34 hl (by decide) rfl (fun ls hl => ?_)
  refine lv_iload_n hx hb dX6_ofWell_36 rfl (lv_at hl 4 rfl) ?_
  refine lv_tableIn (tgt := 138) (off := 101) hx hb dX6_ofWell_37 (by decide) (by decide) (by decide) (by decide) ?_
  refine lv_aload hx hb dX6_ofWell_138 (lv_at hl 0 rfl) ?_
  refine x_get (ref := RX5) (C := RX5) (T := TX5) (N := 5) (ci := 5) (v := .ref (o + (104 + 2 * w))) hx hb hts iX5 hown hK.1 hP (by omega) (by omega) (((gw_out (by omega)).trans ((gw_out (by omega)).trans (hw_log (by omega))))) rfl 2 (by decide) (hts (.fieldLink RX6 205 "PoreField$WellLog" "test" "[I") (by decide +kernel)) (fun _ h9 => h9) rfl dX6_ofWell_140 ?_
  refine lv_iload_n hx hb dX6_ofWell_143 rfl (lv_at hl 4 rfl) ?_
  refine lv_iconst (v := 5) hx hb dX6_ofWell_144 (by decide) ?_
  refine lv_isub hx hb dX6_ofWell_145 ?_
  refine x_iald hx hb hK.1 hP (by omega) (by omega) 0 (((gw_out (by omega)).trans ((gw_out (by omega)).trans (hw_row (hRow_test (by omega)))))) rfl (cl_of_nI (i := 0) (by decide) (by omega)) (vp_in_of_nI (i := 0) (by decide) (by omega) (by omega)) dX6_ofWell_146 ?_
  exact W.iret (v := (P (104 + 2 * w) 0)) hx hb hr (fun tE ht hW => ⟨⟨(P (104 + 2 * w) 0), (), rfl, rfl, x_at ht (hP)⟩, hS.F ht⟩) hS.2.2 dX6_ofWell_147

set_option maxRecDepth 100000 in
set_option maxHeartbeats 4000000 in
/-- ofWell, 6 -/
theorem c_X6_ofWell_6 (l : Launch) (D : va_G) (cy : Nat → ClassId) (lo n : Nat) (w0 : Nat → va_E) (o : Nat) (G T P : Mem) (ho1 : lo ≤ o) (ho2 : o + 118 ≤ lo + n) (nd : Nat) (hG : GI nd G) (w : Nat) (hwl : w < nd)  : Met l yX6_ofWell wsX6_ofWell ({ frames := 1, cells := 0, slots := 0, locals := 22 }) (PcW D cy lo n (gw cy (gw cy (hw cy w0 o P) (o + 50) T) (o + 1) G) [.ref o, .int (nI w), .int (6 : Int32)]) (QiW D lo n (gw cy (gw cy (hw cy w0 o P) (o + 50) T) (o + 1) G) (m_ofWell G P w 6)) 0 0 (fun q : Nat => lo ≤ q) := by
  refine Met.ofW (cc := cX6_ofWell) (maxL := 5) (ret := (some .int)) (by decide) rfl ?_
  intro p e s m args below meth c s₁ B hml hv
  obtain ⟨rfl, hP, hK, hS⟩ := x_entry hv
  have hx := B.exec
  have hb := B.bytes
  have hr := B.returns
  have hts := atoms_spec (ws := wsX6_ofWell) B.pre
  have hown : s.vm.findClass RX6 = some m.cls := findClass_of_methodNamed B.named
  have hlocks := B.notSynchronized
  have iX2 : ∀ w ∈ u_ws RX2 TX2 12, w ∈ wsX6_ofWell := by decide +kernel
  have iX5 : ∀ w ∈ u_ws RX5 TX5 5, w ∈ wsX6_ofWell := by decide +kernel
  have iX6 : ∀ w ∈ u_ws RX6 TX6 11, w ∈ wsX6_ofWell := by decide +kernel
  have hl := lv_entry ([.ref o, .int (nI w), .int (6 : Int32)]) (n := 5) (Nat.le_of_ble_eq_true rfl)
  rw [lg_entry_eq]
  generalize (lg_sl ([.ref o, .int (nI w), .int (6 : Int32)]) ++ List.replicate (5 - (lg_sl ([.ref o, .int (nI w), .int (6 : Int32)])).length) Slot.unset).toArray = ls at hl ⊢
  have hl : lv_has ls 5 [(0, .ref o), (1, .int (nI w)), (2, .int (6 : Int32))] := hl
  have hnd := hG.1
  refine lv_iload_n hx hb dX6_ofWell_0 rfl (lv_at hl 1 rfl) ?_
  refine lv_aload_n hx hb dX6_ofWell_1 rfl (lv_at hl 0 rfl) ?_
  refine x_get (ref := RX6) (C := RX6) (T := TX6) (N := 11) (ci := 6) (v := .ref (o + 1)) hx hb hts iX6 hown hK.1 hP (by omega) (by omega) (((gw_out (by omega)).trans ((gw_out (by omega)).trans (hw_0)))) rfl 0 (by decide) (hts (.fieldLink RX6 10 "PoreField" "ground" "LPoreField$Ground;") (by decide +kernel)) (fun _ h9 => h9) rfl dX6_ofWell_2 ?_
  refine x_get (ref := RX2) (C := RX2) (T := TX2) (N := 12) (ci := 2) (v := .int (G 0 2)) hx hb hts iX2 hown hK.1 hP (by omega) (by omega) (gw_0) rfl 2 (by decide) (hts (.fieldLink RX6 87 "PoreField$Ground" "drilled" "I") (by decide +kernel)) (fun _ h9 => h9) rfl dX6_ofWell_5 ?_
  refine x_callv (va_runS (As := [.int (nI w), .int (G 0 2)]) (rest := []) ⟨hx, hb, hml, hown, hts⟩ (c_X6_needIndex l D cy lo n (gw cy (gw cy (hw cy w0 o P) (o + 50) T) (o + 1) G) w nd (by omega) (by omega) (nI w) (G 0 2) rfl hG.dr) (va_cwS 2 hts gX6_ofWell_X6_needIndex rfl rfl rfl (by decide +kernel) ⟨Nat.le_of_ble_eq_true rfl, Nat.le_of_ble_eq_true rfl⟩) (preS hP hK) rfl rfl hl.1 rfl (lv_room (Nat.le_of_ble_eq_true rfl)) dX6_ofWell_8 ⟨Nat.le_of_ble_eq_true rfl, Nat.le_of_ble_eq_true rfl⟩) hS (fun H locs hP hS => ?_)
  refine lv_iload_n hx hb dX6_ofWell_11 rfl (lv_at hl 2 rfl) ?_
  refine lv_iconst (v := 0) hx hb dX6_ofWell_12 (by decide) ?_
  refine lv_bipush (v := 13) hx hb dX6_ofWell_13 (by decide) ?_
  refine x_callv (va_runS (As := [.int (6 : Int32), .int (0 : Int32), .int (13 : Int32)]) (rest := []) ⟨hx, hb, hml, hown, hts⟩ (c_X6_needWithin l D cy lo n (gw cy (gw cy (hw cy w0 o P) (o + 50) T) (o + 1) G) (6 : Int32) (0 : Int32) (13 : Int32) ((br_le (show (0 : Int32) = nI 0 from rfl) (show (6 : Int32) = nI 6 from rfl) (by omega) (by omega)).mpr (by omega)) ((br_le (show (6 : Int32) = nI 6 from rfl) (show (13 : Int32) = nI 13 from rfl) (by omega) (by omega)).mpr (by omega))) (va_cwS 3 hts gX6_ofWell_X6_needWithin rfl rfl rfl (by decide +kernel) ⟨Nat.le_of_ble_eq_true rfl, Nat.le_of_ble_eq_true rfl⟩) (preS hP hK) rfl rfl hl.1 rfl (lv_room (Nat.le_of_ble_eq_true rfl)) dX6_ofWell_15 ⟨Nat.le_of_ble_eq_true rfl, Nat.le_of_ble_eq_true rfl⟩) hS (fun H locs hP hS => ?_)
  refine lv_aload_n hx hb dX6_ofWell_18 rfl (lv_at hl 0 rfl) ?_
  refine x_get (ref := RX6) (C := RX6) (T := TX6) (N := 11) (ci := 6) (v := .ref (o + 1)) hx hb hts iX6 hown hK.1 hP (by omega) (by omega) (((gw_out (by omega)).trans ((gw_out (by omega)).trans (hw_0)))) rfl 0 (by decide) (hts (.fieldLink RX6 10 "PoreField" "ground" "LPoreField$Ground;") (by decide +kernel)) (fun _ h9 => h9) rfl dX6_ofWell_19 ?_
  refine x_get (ref := RX2) (C := RX2) (T := TX2) (N := 12) (ci := 2) (v := .ref ((o + 1) + 2)) hx hb hts iX2 hown hK.1 hP (by omega) (by omega) (gw_0) rfl 1 (by decide) (hts (.fieldLink RX6 97 "PoreField$Ground" "wells" "[LPoreField$Well;") (by decide +kernel)) (fun _ h9 => h9) rfl dX6_ofWell_22 ?_
  refine lv_iload_n hx hb dX6_ofWell_25 rfl (lv_at hl 1 rfl) ?_
  refine x_aald (b := ((o + 1) + (37 + 2 * w))) hx hb hK.1 hP (by omega) (by omega) 2 (gw_2) rfl (cl_of_nI (i := w) rfl (by omega)) rfl (vp_in_of_nI (i := w) rfl (by omega) (by omega)) dX6_ofWell_26 ?_
  refine lv_astore_n (lv' := [(3, .ref ((o + 1) + (37 + 2 * w))), (0, .ref o), (1, .int (nI w)), (2, .int (6 : Int32))]) hx hb dX6_ofWell_27 rfl hl (by decide) rfl (fun ls hl => ?_)
  refine lv_aload_n hx hb dX6_ofWell_28 rfl (lv_at hl 1 rfl) ?_
  refine x_get (ref := RX6) (C := RX6) (T := TX6) (N := 11) (ci := 6) (v := .ref (o + 99)) hx hb hts iX6 hown hK.1 hP (by omega) (by omega) (((gw_out (by omega)).trans ((gw_out (by omega)).trans (hw_0)))) rfl 2 (by decide) (hts (.fieldLink RX6 21 "PoreField" "logs" "[LPoreField$WellLog;") (by decide +kernel)) (fun _ h9 => h9) rfl dX6_ofWell_29 ?_
  refine lv_iload_n hx hb dX6_ofWell_32 rfl (lv_at hl 2 rfl) ?_
  refine x_aald (b := (o + (103 + 2 * w))) hx hb hK.1 hP (by omega) (by omega) 3 (((gw_out (by omega)).trans ((gw_out (by omega)).trans (hw_99)))) rfl (cl_of_nI (i := w) rfl (by omega)) rfl (vp_in_of_nI (i := w) rfl (by omega) (by omega)) dX6_ofWell_33 ?_
  refine lv_astore (lv' := [(4, .ref (o + (103 + 2 * w))), (3, .ref ((o + 1) + (37 + 2 * w))), (0, .ref o), (1, .int (nI w)), (2, .int (6 : Int32))]) hx hb dX6_ofWell_34 hl (by decide) rfl (fun ls hl => ?_)
  refine lv_iload_n hx hb dX6_ofWell_36 rfl (lv_at hl 4 rfl) ?_
  refine lv_tableIn (tgt := 138) (off := 101) hx hb dX6_ofWell_37 (by decide) (by decide) (by decide) (by decide) ?_
  refine lv_aload hx hb dX6_ofWell_138 (lv_at hl 0 rfl) ?_
  refine x_get (ref := RX5) (C := RX5) (T := TX5) (N := 5) (ci := 5) (v := .ref (o + (104 + 2 * w))) hx hb hts iX5 hown hK.1 hP (by omega) (by omega) (((gw_out (by omega)).trans ((gw_out (by omega)).trans (hw_log (by omega))))) rfl 2 (by decide) (hts (.fieldLink RX6 205 "PoreField$WellLog" "test" "[I") (by decide +kernel)) (fun _ h9 => h9) rfl dX6_ofWell_140 ?_
  refine lv_iload_n hx hb dX6_ofWell_143 rfl (lv_at hl 4 rfl) ?_
  refine lv_iconst (v := 5) hx hb dX6_ofWell_144 (by decide) ?_
  refine lv_isub hx hb dX6_ofWell_145 ?_
  refine x_iald hx hb hK.1 hP (by omega) (by omega) 0 (((gw_out (by omega)).trans ((gw_out (by omega)).trans (hw_row (hRow_test (by omega)))))) rfl (cl_of_nI (i := 1) (by decide) (by omega)) (vp_in_of_nI (i := 1) (by decide) (by omega) (by omega)) dX6_ofWell_146 ?_
  exact W.iret (v := (P (104 + 2 * w) 1)) hx hb hr (fun tE ht hW => ⟨⟨(P (104 + 2 * w) 1), (), rfl, rfl, x_at ht (hP)⟩, hS.F ht⟩) hS.2.2 dX6_ofWell_147

set_option maxRecDepth 100000 in
set_option maxHeartbeats 4000000 in
/-- ofWell, 7 -/
theorem c_X6_ofWell_7 (l : Launch) (D : va_G) (cy : Nat → ClassId) (lo n : Nat) (w0 : Nat → va_E) (o : Nat) (G T P : Mem) (ho1 : lo ≤ o) (ho2 : o + 118 ≤ lo + n) (nd : Nat) (hG : GI nd G) (w : Nat) (hwl : w < nd)  : Met l yX6_ofWell wsX6_ofWell ({ frames := 1, cells := 0, slots := 0, locals := 22 }) (PcW D cy lo n (gw cy (gw cy (hw cy w0 o P) (o + 50) T) (o + 1) G) [.ref o, .int (nI w), .int (7 : Int32)]) (QiW D lo n (gw cy (gw cy (hw cy w0 o P) (o + 50) T) (o + 1) G) (m_ofWell G P w 7)) 0 0 (fun q : Nat => lo ≤ q) := by
  refine Met.ofW (cc := cX6_ofWell) (maxL := 5) (ret := (some .int)) (by decide) rfl ?_
  intro p e s m args below meth c s₁ B hml hv
  obtain ⟨rfl, hP, hK, hS⟩ := x_entry hv
  have hx := B.exec
  have hb := B.bytes
  have hr := B.returns
  have hts := atoms_spec (ws := wsX6_ofWell) B.pre
  have hown : s.vm.findClass RX6 = some m.cls := findClass_of_methodNamed B.named
  have hlocks := B.notSynchronized
  have iX2 : ∀ w ∈ u_ws RX2 TX2 12, w ∈ wsX6_ofWell := by decide +kernel
  have iX5 : ∀ w ∈ u_ws RX5 TX5 5, w ∈ wsX6_ofWell := by decide +kernel
  have iX6 : ∀ w ∈ u_ws RX6 TX6 11, w ∈ wsX6_ofWell := by decide +kernel
  have hl := lv_entry ([.ref o, .int (nI w), .int (7 : Int32)]) (n := 5) (Nat.le_of_ble_eq_true rfl)
  rw [lg_entry_eq]
  generalize (lg_sl ([.ref o, .int (nI w), .int (7 : Int32)]) ++ List.replicate (5 - (lg_sl ([.ref o, .int (nI w), .int (7 : Int32)])).length) Slot.unset).toArray = ls at hl ⊢
  have hl : lv_has ls 5 [(0, .ref o), (1, .int (nI w)), (2, .int (7 : Int32))] := hl
  have hnd := hG.1
  refine lv_iload_n hx hb dX6_ofWell_0 rfl (lv_at hl 1 rfl) ?_
  refine lv_aload_n hx hb dX6_ofWell_1 rfl (lv_at hl 0 rfl) ?_
  refine x_get (ref := RX6) (C := RX6) (T := TX6) (N := 11) (ci := 6) (v := .ref (o + 1)) hx hb hts iX6 hown hK.1 hP (by omega) (by omega) (((gw_out (by omega)).trans ((gw_out (by omega)).trans (hw_0)))) rfl 0 (by decide) (hts (.fieldLink RX6 10 "PoreField" "ground" "LPoreField$Ground;") (by decide +kernel)) (fun _ h9 => h9) rfl dX6_ofWell_2 ?_
  refine x_get (ref := RX2) (C := RX2) (T := TX2) (N := 12) (ci := 2) (v := .int (G 0 2)) hx hb hts iX2 hown hK.1 hP (by omega) (by omega) (gw_0) rfl 2 (by decide) (hts (.fieldLink RX6 87 "PoreField$Ground" "drilled" "I") (by decide +kernel)) (fun _ h9 => h9) rfl dX6_ofWell_5 ?_
  refine x_callv (va_runS (As := [.int (nI w), .int (G 0 2)]) (rest := []) ⟨hx, hb, hml, hown, hts⟩ (c_X6_needIndex l D cy lo n (gw cy (gw cy (hw cy w0 o P) (o + 50) T) (o + 1) G) w nd (by omega) (by omega) (nI w) (G 0 2) rfl hG.dr) (va_cwS 2 hts gX6_ofWell_X6_needIndex rfl rfl rfl (by decide +kernel) ⟨Nat.le_of_ble_eq_true rfl, Nat.le_of_ble_eq_true rfl⟩) (preS hP hK) rfl rfl hl.1 rfl (lv_room (Nat.le_of_ble_eq_true rfl)) dX6_ofWell_8 ⟨Nat.le_of_ble_eq_true rfl, Nat.le_of_ble_eq_true rfl⟩) hS (fun H locs hP hS => ?_)
  refine lv_iload_n hx hb dX6_ofWell_11 rfl (lv_at hl 2 rfl) ?_
  refine lv_iconst (v := 0) hx hb dX6_ofWell_12 (by decide) ?_
  refine lv_bipush (v := 13) hx hb dX6_ofWell_13 (by decide) ?_
  refine x_callv (va_runS (As := [.int (7 : Int32), .int (0 : Int32), .int (13 : Int32)]) (rest := []) ⟨hx, hb, hml, hown, hts⟩ (c_X6_needWithin l D cy lo n (gw cy (gw cy (hw cy w0 o P) (o + 50) T) (o + 1) G) (7 : Int32) (0 : Int32) (13 : Int32) ((br_le (show (0 : Int32) = nI 0 from rfl) (show (7 : Int32) = nI 7 from rfl) (by omega) (by omega)).mpr (by omega)) ((br_le (show (7 : Int32) = nI 7 from rfl) (show (13 : Int32) = nI 13 from rfl) (by omega) (by omega)).mpr (by omega))) (va_cwS 3 hts gX6_ofWell_X6_needWithin rfl rfl rfl (by decide +kernel) ⟨Nat.le_of_ble_eq_true rfl, Nat.le_of_ble_eq_true rfl⟩) (preS hP hK) rfl rfl hl.1 rfl (lv_room (Nat.le_of_ble_eq_true rfl)) dX6_ofWell_15 ⟨Nat.le_of_ble_eq_true rfl, Nat.le_of_ble_eq_true rfl⟩) hS (fun H locs hP hS => ?_)
  refine lv_aload_n hx hb dX6_ofWell_18 rfl (lv_at hl 0 rfl) ?_
  refine x_get (ref := RX6) (C := RX6) (T := TX6) (N := 11) (ci := 6) (v := .ref (o + 1)) hx hb hts iX6 hown hK.1 hP (by omega) (by omega) (((gw_out (by omega)).trans ((gw_out (by omega)).trans (hw_0)))) rfl 0 (by decide) (hts (.fieldLink RX6 10 "PoreField" "ground" "LPoreField$Ground;") (by decide +kernel)) (fun _ h9 => h9) rfl dX6_ofWell_19 ?_
  refine x_get (ref := RX2) (C := RX2) (T := TX2) (N := 12) (ci := 2) (v := .ref ((o + 1) + 2)) hx hb hts iX2 hown hK.1 hP (by omega) (by omega) (gw_0) rfl 1 (by decide) (hts (.fieldLink RX6 97 "PoreField$Ground" "wells" "[LPoreField$Well;") (by decide +kernel)) (fun _ h9 => h9) rfl dX6_ofWell_22 ?_
  refine lv_iload_n hx hb dX6_ofWell_25 rfl (lv_at hl 1 rfl) ?_
  refine x_aald (b := ((o + 1) + (37 + 2 * w))) hx hb hK.1 hP (by omega) (by omega) 2 (gw_2) rfl (cl_of_nI (i := w) rfl (by omega)) rfl (vp_in_of_nI (i := w) rfl (by omega) (by omega)) dX6_ofWell_26 ?_
  refine lv_astore_n (lv' := [(3, .ref ((o + 1) + (37 + 2 * w))), (0, .ref o), (1, .int (nI w)), (2, .int (7 : Int32))]) hx hb dX6_ofWell_27 rfl hl (by decide) rfl (fun ls hl => ?_)
  refine lv_aload_n hx hb dX6_ofWell_28 rfl (lv_at hl 1 rfl) ?_
  refine x_get (ref := RX6) (C := RX6) (T := TX6) (N := 11) (ci := 6) (v := .ref (o + 99)) hx hb hts iX6 hown hK.1 hP (by omega) (by omega) (((gw_out (by omega)).trans ((gw_out (by omega)).trans (hw_0)))) rfl 2 (by decide) (hts (.fieldLink RX6 21 "PoreField" "logs" "[LPoreField$WellLog;") (by decide +kernel)) (fun _ h9 => h9) rfl dX6_ofWell_29 ?_
  refine lv_iload_n hx hb dX6_ofWell_32 rfl (lv_at hl 2 rfl) ?_
  refine x_aald (b := (o + (103 + 2 * w))) hx hb hK.1 hP (by omega) (by omega) 3 (((gw_out (by omega)).trans ((gw_out (by omega)).trans (hw_99)))) rfl (cl_of_nI (i := w) rfl (by omega)) rfl (vp_in_of_nI (i := w) rfl (by omega) (by omega)) dX6_ofWell_33 ?_
  refine lv_astore (lv' := [(4, .ref (o + (103 + 2 * w))), (3, .ref ((o + 1) + (37 + 2 * w))), (0, .ref o), (1, .int (nI w)), (2, .int (7 : Int32))]) hx hb dX6_ofWell_34 hl (by decide) rfl (fun ls hl => ?_)
  refine lv_iload_n hx hb dX6_ofWell_36 rfl (lv_at hl 4 rfl) ?_
  refine lv_tableIn (tgt := 138) (off := 101) hx hb dX6_ofWell_37 (by decide) (by decide) (by decide) (by decide) ?_
  refine lv_aload hx hb dX6_ofWell_138 (lv_at hl 0 rfl) ?_
  refine x_get (ref := RX5) (C := RX5) (T := TX5) (N := 5) (ci := 5) (v := .ref (o + (104 + 2 * w))) hx hb hts iX5 hown hK.1 hP (by omega) (by omega) (((gw_out (by omega)).trans ((gw_out (by omega)).trans (hw_log (by omega))))) rfl 2 (by decide) (hts (.fieldLink RX6 205 "PoreField$WellLog" "test" "[I") (by decide +kernel)) (fun _ h9 => h9) rfl dX6_ofWell_140 ?_
  refine lv_iload_n hx hb dX6_ofWell_143 rfl (lv_at hl 4 rfl) ?_
  refine lv_iconst (v := 5) hx hb dX6_ofWell_144 (by decide) ?_
  refine lv_isub hx hb dX6_ofWell_145 ?_
  refine x_iald hx hb hK.1 hP (by omega) (by omega) 0 (((gw_out (by omega)).trans ((gw_out (by omega)).trans (hw_row (hRow_test (by omega)))))) rfl (cl_of_nI (i := 2) (by decide) (by omega)) (vp_in_of_nI (i := 2) (by decide) (by omega) (by omega)) dX6_ofWell_146 ?_
  exact W.iret (v := (P (104 + 2 * w) 2)) hx hb hr (fun tE ht hW => ⟨⟨(P (104 + 2 * w) 2), (), rfl, rfl, x_at ht (hP)⟩, hS.F ht⟩) hS.2.2 dX6_ofWell_147

set_option maxRecDepth 100000 in
set_option maxHeartbeats 4000000 in
/-- ofWell, 8 -/
theorem c_X6_ofWell_8 (l : Launch) (D : va_G) (cy : Nat → ClassId) (lo n : Nat) (w0 : Nat → va_E) (o : Nat) (G T P : Mem) (ho1 : lo ≤ o) (ho2 : o + 118 ≤ lo + n) (nd : Nat) (hG : GI nd G) (w : Nat) (hwl : w < nd)  : Met l yX6_ofWell wsX6_ofWell ({ frames := 1, cells := 0, slots := 0, locals := 22 }) (PcW D cy lo n (gw cy (gw cy (hw cy w0 o P) (o + 50) T) (o + 1) G) [.ref o, .int (nI w), .int (8 : Int32)]) (QiW D lo n (gw cy (gw cy (hw cy w0 o P) (o + 50) T) (o + 1) G) (m_ofWell G P w 8)) 0 0 (fun q : Nat => lo ≤ q) := by
  refine Met.ofW (cc := cX6_ofWell) (maxL := 5) (ret := (some .int)) (by decide) rfl ?_
  intro p e s m args below meth c s₁ B hml hv
  obtain ⟨rfl, hP, hK, hS⟩ := x_entry hv
  have hx := B.exec
  have hb := B.bytes
  have hr := B.returns
  have hts := atoms_spec (ws := wsX6_ofWell) B.pre
  have hown : s.vm.findClass RX6 = some m.cls := findClass_of_methodNamed B.named
  have hlocks := B.notSynchronized
  have iX2 : ∀ w ∈ u_ws RX2 TX2 12, w ∈ wsX6_ofWell := by decide +kernel
  have iX4 : ∀ w ∈ u_ws RX4 TX4 5, w ∈ wsX6_ofWell := by decide +kernel
  have iX6 : ∀ w ∈ u_ws RX6 TX6 11, w ∈ wsX6_ofWell := by decide +kernel
  have hl := lv_entry ([.ref o, .int (nI w), .int (8 : Int32)]) (n := 5) (Nat.le_of_ble_eq_true rfl)
  rw [lg_entry_eq]
  generalize (lg_sl ([.ref o, .int (nI w), .int (8 : Int32)]) ++ List.replicate (5 - (lg_sl ([.ref o, .int (nI w), .int (8 : Int32)])).length) Slot.unset).toArray = ls at hl ⊢
  have hl : lv_has ls 5 [(0, .ref o), (1, .int (nI w)), (2, .int (8 : Int32))] := hl
  have hnd := hG.1
  refine lv_iload_n hx hb dX6_ofWell_0 rfl (lv_at hl 1 rfl) ?_
  refine lv_aload_n hx hb dX6_ofWell_1 rfl (lv_at hl 0 rfl) ?_
  refine x_get (ref := RX6) (C := RX6) (T := TX6) (N := 11) (ci := 6) (v := .ref (o + 1)) hx hb hts iX6 hown hK.1 hP (by omega) (by omega) (((gw_out (by omega)).trans ((gw_out (by omega)).trans (hw_0)))) rfl 0 (by decide) (hts (.fieldLink RX6 10 "PoreField" "ground" "LPoreField$Ground;") (by decide +kernel)) (fun _ h9 => h9) rfl dX6_ofWell_2 ?_
  refine x_get (ref := RX2) (C := RX2) (T := TX2) (N := 12) (ci := 2) (v := .int (G 0 2)) hx hb hts iX2 hown hK.1 hP (by omega) (by omega) (gw_0) rfl 2 (by decide) (hts (.fieldLink RX6 87 "PoreField$Ground" "drilled" "I") (by decide +kernel)) (fun _ h9 => h9) rfl dX6_ofWell_5 ?_
  refine x_callv (va_runS (As := [.int (nI w), .int (G 0 2)]) (rest := []) ⟨hx, hb, hml, hown, hts⟩ (c_X6_needIndex l D cy lo n (gw cy (gw cy (hw cy w0 o P) (o + 50) T) (o + 1) G) w nd (by omega) (by omega) (nI w) (G 0 2) rfl hG.dr) (va_cwS 2 hts gX6_ofWell_X6_needIndex rfl rfl rfl (by decide +kernel) ⟨Nat.le_of_ble_eq_true rfl, Nat.le_of_ble_eq_true rfl⟩) (preS hP hK) rfl rfl hl.1 rfl (lv_room (Nat.le_of_ble_eq_true rfl)) dX6_ofWell_8 ⟨Nat.le_of_ble_eq_true rfl, Nat.le_of_ble_eq_true rfl⟩) hS (fun H locs hP hS => ?_)
  refine lv_iload_n hx hb dX6_ofWell_11 rfl (lv_at hl 2 rfl) ?_
  refine lv_iconst (v := 0) hx hb dX6_ofWell_12 (by decide) ?_
  refine lv_bipush (v := 13) hx hb dX6_ofWell_13 (by decide) ?_
  refine x_callv (va_runS (As := [.int (8 : Int32), .int (0 : Int32), .int (13 : Int32)]) (rest := []) ⟨hx, hb, hml, hown, hts⟩ (c_X6_needWithin l D cy lo n (gw cy (gw cy (hw cy w0 o P) (o + 50) T) (o + 1) G) (8 : Int32) (0 : Int32) (13 : Int32) ((br_le (show (0 : Int32) = nI 0 from rfl) (show (8 : Int32) = nI 8 from rfl) (by omega) (by omega)).mpr (by omega)) ((br_le (show (8 : Int32) = nI 8 from rfl) (show (13 : Int32) = nI 13 from rfl) (by omega) (by omega)).mpr (by omega))) (va_cwS 3 hts gX6_ofWell_X6_needWithin rfl rfl rfl (by decide +kernel) ⟨Nat.le_of_ble_eq_true rfl, Nat.le_of_ble_eq_true rfl⟩) (preS hP hK) rfl rfl hl.1 rfl (lv_room (Nat.le_of_ble_eq_true rfl)) dX6_ofWell_15 ⟨Nat.le_of_ble_eq_true rfl, Nat.le_of_ble_eq_true rfl⟩) hS (fun H locs hP hS => ?_)
  refine lv_aload_n hx hb dX6_ofWell_18 rfl (lv_at hl 0 rfl) ?_
  refine x_get (ref := RX6) (C := RX6) (T := TX6) (N := 11) (ci := 6) (v := .ref (o + 1)) hx hb hts iX6 hown hK.1 hP (by omega) (by omega) (((gw_out (by omega)).trans ((gw_out (by omega)).trans (hw_0)))) rfl 0 (by decide) (hts (.fieldLink RX6 10 "PoreField" "ground" "LPoreField$Ground;") (by decide +kernel)) (fun _ h9 => h9) rfl dX6_ofWell_19 ?_
  refine x_get (ref := RX2) (C := RX2) (T := TX2) (N := 12) (ci := 2) (v := .ref ((o + 1) + 2)) hx hb hts iX2 hown hK.1 hP (by omega) (by omega) (gw_0) rfl 1 (by decide) (hts (.fieldLink RX6 97 "PoreField$Ground" "wells" "[LPoreField$Well;") (by decide +kernel)) (fun _ h9 => h9) rfl dX6_ofWell_22 ?_
  refine lv_iload_n hx hb dX6_ofWell_25 rfl (lv_at hl 1 rfl) ?_
  refine x_aald (b := ((o + 1) + (37 + 2 * w))) hx hb hK.1 hP (by omega) (by omega) 2 (gw_2) rfl (cl_of_nI (i := w) rfl (by omega)) rfl (vp_in_of_nI (i := w) rfl (by omega) (by omega)) dX6_ofWell_26 ?_
  refine lv_astore_n (lv' := [(3, .ref ((o + 1) + (37 + 2 * w))), (0, .ref o), (1, .int (nI w)), (2, .int (8 : Int32))]) hx hb dX6_ofWell_27 rfl hl (by decide) rfl (fun ls hl => ?_)
  refine lv_aload_n hx hb dX6_ofWell_28 rfl (lv_at hl 1 rfl) ?_
  refine x_get (ref := RX6) (C := RX6) (T := TX6) (N := 11) (ci := 6) (v := .ref (o + 99)) hx hb hts iX6 hown hK.1 hP (by omega) (by omega) (((gw_out (by omega)).trans ((gw_out (by omega)).trans (hw_0)))) rfl 2 (by decide) (hts (.fieldLink RX6 21 "PoreField" "logs" "[LPoreField$WellLog;") (by decide +kernel)) (fun _ h9 => h9) rfl dX6_ofWell_29 ?_
  refine lv_iload_n hx hb dX6_ofWell_32 rfl (lv_at hl 2 rfl) ?_
  refine x_aald (b := (o + (103 + 2 * w))) hx hb hK.1 hP (by omega) (by omega) 3 (((gw_out (by omega)).trans ((gw_out (by omega)).trans (hw_99)))) rfl (cl_of_nI (i := w) rfl (by omega)) rfl (vp_in_of_nI (i := w) rfl (by omega) (by omega)) dX6_ofWell_33 ?_
  refine lv_astore (lv' := [(4, .ref (o + (103 + 2 * w))), (3, .ref ((o + 1) + (37 + 2 * w))), (0, .ref o), (1, .int (nI w)), (2, .int (8 : Int32))]) hx hb dX6_ofWell_34 hl (by decide) rfl (fun ls hl => ?_)
  refine lv_iload_n hx hb dX6_ofWell_36 rfl (lv_at hl 4 rfl) ?_
  refine lv_tableIn (tgt := 148) (off := 111) hx hb dX6_ofWell_37 (by decide) (by decide) (by decide) (by decide) ?_
  refine lv_aload_n hx hb dX6_ofWell_148 rfl (lv_at hl 1 rfl) ?_
  refine x_get (ref := RX4) (C := RX4) (T := TX4) (N := 5) (ci := 4) (v := .ref ((o + 1) + (38 + 2 * w))) hx hb hts iX4 hown hK.1 hP (by omega) (by omega) (gw_well (by omega)) rfl 4 (by decide) (hts (.fieldLink RX6 208 "PoreField$Well" "gave" "[I") (by decide +kernel)) (fun _ h9 => h9) rfl dX6_ofWell_149 ?_
  refine lv_iload_n hx hb dX6_ofWell_152 rfl (lv_at hl 4 rfl) ?_
  refine lv_bipush (v := 8) hx hb dX6_ofWell_153 (by decide) ?_
  refine lv_isub hx hb dX6_ofWell_155 ?_
  refine x_iald hx hb hK.1 hP (by omega) (by omega) 0 (gw_row (gRow_gave (by omega))) rfl (cl_of_nI (i := 0) (by decide) (by omega)) (vp_in_of_nI (i := 0) (by decide) (by omega) (by omega)) dX6_ofWell_156 ?_
  exact W.iret (v := (G (38 + 2 * w) 0)) hx hb hr (fun tE ht hW => ⟨⟨(G (38 + 2 * w) 0), (), rfl, rfl, x_at ht (hP)⟩, hS.F ht⟩) hS.2.2 dX6_ofWell_157

set_option maxRecDepth 100000 in
set_option maxHeartbeats 4000000 in
/-- ofWell, 9 -/
theorem c_X6_ofWell_9 (l : Launch) (D : va_G) (cy : Nat → ClassId) (lo n : Nat) (w0 : Nat → va_E) (o : Nat) (G T P : Mem) (ho1 : lo ≤ o) (ho2 : o + 118 ≤ lo + n) (nd : Nat) (hG : GI nd G) (w : Nat) (hwl : w < nd)  : Met l yX6_ofWell wsX6_ofWell ({ frames := 1, cells := 0, slots := 0, locals := 22 }) (PcW D cy lo n (gw cy (gw cy (hw cy w0 o P) (o + 50) T) (o + 1) G) [.ref o, .int (nI w), .int (9 : Int32)]) (QiW D lo n (gw cy (gw cy (hw cy w0 o P) (o + 50) T) (o + 1) G) (m_ofWell G P w 9)) 0 0 (fun q : Nat => lo ≤ q) := by
  refine Met.ofW (cc := cX6_ofWell) (maxL := 5) (ret := (some .int)) (by decide) rfl ?_
  intro p e s m args below meth c s₁ B hml hv
  obtain ⟨rfl, hP, hK, hS⟩ := x_entry hv
  have hx := B.exec
  have hb := B.bytes
  have hr := B.returns
  have hts := atoms_spec (ws := wsX6_ofWell) B.pre
  have hown : s.vm.findClass RX6 = some m.cls := findClass_of_methodNamed B.named
  have hlocks := B.notSynchronized
  have iX2 : ∀ w ∈ u_ws RX2 TX2 12, w ∈ wsX6_ofWell := by decide +kernel
  have iX4 : ∀ w ∈ u_ws RX4 TX4 5, w ∈ wsX6_ofWell := by decide +kernel
  have iX6 : ∀ w ∈ u_ws RX6 TX6 11, w ∈ wsX6_ofWell := by decide +kernel
  have hl := lv_entry ([.ref o, .int (nI w), .int (9 : Int32)]) (n := 5) (Nat.le_of_ble_eq_true rfl)
  rw [lg_entry_eq]
  generalize (lg_sl ([.ref o, .int (nI w), .int (9 : Int32)]) ++ List.replicate (5 - (lg_sl ([.ref o, .int (nI w), .int (9 : Int32)])).length) Slot.unset).toArray = ls at hl ⊢
  have hl : lv_has ls 5 [(0, .ref o), (1, .int (nI w)), (2, .int (9 : Int32))] := hl
  have hnd := hG.1
  refine lv_iload_n hx hb dX6_ofWell_0 rfl (lv_at hl 1 rfl) ?_
  refine lv_aload_n hx hb dX6_ofWell_1 rfl (lv_at hl 0 rfl) ?_
  refine x_get (ref := RX6) (C := RX6) (T := TX6) (N := 11) (ci := 6) (v := .ref (o + 1)) hx hb hts iX6 hown hK.1 hP (by omega) (by omega) (((gw_out (by omega)).trans ((gw_out (by omega)).trans (hw_0)))) rfl 0 (by decide) (hts (.fieldLink RX6 10 "PoreField" "ground" "LPoreField$Ground;") (by decide +kernel)) (fun _ h9 => h9) rfl dX6_ofWell_2 ?_
  refine x_get (ref := RX2) (C := RX2) (T := TX2) (N := 12) (ci := 2) (v := .int (G 0 2)) hx hb hts iX2 hown hK.1 hP (by omega) (by omega) (gw_0) rfl 2 (by decide) (hts (.fieldLink RX6 87 "PoreField$Ground" "drilled" "I") (by decide +kernel)) (fun _ h9 => h9) rfl dX6_ofWell_5 ?_
  refine x_callv (va_runS (As := [.int (nI w), .int (G 0 2)]) (rest := []) ⟨hx, hb, hml, hown, hts⟩ (c_X6_needIndex l D cy lo n (gw cy (gw cy (hw cy w0 o P) (o + 50) T) (o + 1) G) w nd (by omega) (by omega) (nI w) (G 0 2) rfl hG.dr) (va_cwS 2 hts gX6_ofWell_X6_needIndex rfl rfl rfl (by decide +kernel) ⟨Nat.le_of_ble_eq_true rfl, Nat.le_of_ble_eq_true rfl⟩) (preS hP hK) rfl rfl hl.1 rfl (lv_room (Nat.le_of_ble_eq_true rfl)) dX6_ofWell_8 ⟨Nat.le_of_ble_eq_true rfl, Nat.le_of_ble_eq_true rfl⟩) hS (fun H locs hP hS => ?_)
  refine lv_iload_n hx hb dX6_ofWell_11 rfl (lv_at hl 2 rfl) ?_
  refine lv_iconst (v := 0) hx hb dX6_ofWell_12 (by decide) ?_
  refine lv_bipush (v := 13) hx hb dX6_ofWell_13 (by decide) ?_
  refine x_callv (va_runS (As := [.int (9 : Int32), .int (0 : Int32), .int (13 : Int32)]) (rest := []) ⟨hx, hb, hml, hown, hts⟩ (c_X6_needWithin l D cy lo n (gw cy (gw cy (hw cy w0 o P) (o + 50) T) (o + 1) G) (9 : Int32) (0 : Int32) (13 : Int32) ((br_le (show (0 : Int32) = nI 0 from rfl) (show (9 : Int32) = nI 9 from rfl) (by omega) (by omega)).mpr (by omega)) ((br_le (show (9 : Int32) = nI 9 from rfl) (show (13 : Int32) = nI 13 from rfl) (by omega) (by omega)).mpr (by omega))) (va_cwS 3 hts gX6_ofWell_X6_needWithin rfl rfl rfl (by decide +kernel) ⟨Nat.le_of_ble_eq_true rfl, Nat.le_of_ble_eq_true rfl⟩) (preS hP hK) rfl rfl hl.1 rfl (lv_room (Nat.le_of_ble_eq_true rfl)) dX6_ofWell_15 ⟨Nat.le_of_ble_eq_true rfl, Nat.le_of_ble_eq_true rfl⟩) hS (fun H locs hP hS => ?_)
  refine lv_aload_n hx hb dX6_ofWell_18 rfl (lv_at hl 0 rfl) ?_
  refine x_get (ref := RX6) (C := RX6) (T := TX6) (N := 11) (ci := 6) (v := .ref (o + 1)) hx hb hts iX6 hown hK.1 hP (by omega) (by omega) (((gw_out (by omega)).trans ((gw_out (by omega)).trans (hw_0)))) rfl 0 (by decide) (hts (.fieldLink RX6 10 "PoreField" "ground" "LPoreField$Ground;") (by decide +kernel)) (fun _ h9 => h9) rfl dX6_ofWell_19 ?_
  refine x_get (ref := RX2) (C := RX2) (T := TX2) (N := 12) (ci := 2) (v := .ref ((o + 1) + 2)) hx hb hts iX2 hown hK.1 hP (by omega) (by omega) (gw_0) rfl 1 (by decide) (hts (.fieldLink RX6 97 "PoreField$Ground" "wells" "[LPoreField$Well;") (by decide +kernel)) (fun _ h9 => h9) rfl dX6_ofWell_22 ?_
  refine lv_iload_n hx hb dX6_ofWell_25 rfl (lv_at hl 1 rfl) ?_
  refine x_aald (b := ((o + 1) + (37 + 2 * w))) hx hb hK.1 hP (by omega) (by omega) 2 (gw_2) rfl (cl_of_nI (i := w) rfl (by omega)) rfl (vp_in_of_nI (i := w) rfl (by omega) (by omega)) dX6_ofWell_26 ?_
  refine lv_astore_n (lv' := [(3, .ref ((o + 1) + (37 + 2 * w))), (0, .ref o), (1, .int (nI w)), (2, .int (9 : Int32))]) hx hb dX6_ofWell_27 rfl hl (by decide) rfl (fun ls hl => ?_)
  refine lv_aload_n hx hb dX6_ofWell_28 rfl (lv_at hl 1 rfl) ?_
  refine x_get (ref := RX6) (C := RX6) (T := TX6) (N := 11) (ci := 6) (v := .ref (o + 99)) hx hb hts iX6 hown hK.1 hP (by omega) (by omega) (((gw_out (by omega)).trans ((gw_out (by omega)).trans (hw_0)))) rfl 2 (by decide) (hts (.fieldLink RX6 21 "PoreField" "logs" "[LPoreField$WellLog;") (by decide +kernel)) (fun _ h9 => h9) rfl dX6_ofWell_29 ?_
  refine lv_iload_n hx hb dX6_ofWell_32 rfl (lv_at hl 2 rfl) ?_
  refine x_aald (b := (o + (103 + 2 * w))) hx hb hK.1 hP (by omega) (by omega) 3 (((gw_out (by omega)).trans ((gw_out (by omega)).trans (hw_99)))) rfl (cl_of_nI (i := w) rfl (by omega)) rfl (vp_in_of_nI (i := w) rfl (by omega) (by omega)) dX6_ofWell_33 ?_
  refine lv_astore (lv' := [(4, .ref (o + (103 + 2 * w))), (3, .ref ((o + 1) + (37 + 2 * w))), (0, .ref o), (1, .int (nI w)), (2, .int (9 : Int32))]) hx hb dX6_ofWell_34 hl (by decide) rfl (fun ls hl => ?_)
  refine lv_iload_n hx hb dX6_ofWell_36 rfl (lv_at hl 4 rfl) ?_
  refine lv_tableIn (tgt := 148) (off := 111) hx hb dX6_ofWell_37 (by decide) (by decide) (by decide) (by decide) ?_
  refine lv_aload_n hx hb dX6_ofWell_148 rfl (lv_at hl 1 rfl) ?_
  refine x_get (ref := RX4) (C := RX4) (T := TX4) (N := 5) (ci := 4) (v := .ref ((o + 1) + (38 + 2 * w))) hx hb hts iX4 hown hK.1 hP (by omega) (by omega) (gw_well (by omega)) rfl 4 (by decide) (hts (.fieldLink RX6 208 "PoreField$Well" "gave" "[I") (by decide +kernel)) (fun _ h9 => h9) rfl dX6_ofWell_149 ?_
  refine lv_iload_n hx hb dX6_ofWell_152 rfl (lv_at hl 4 rfl) ?_
  refine lv_bipush (v := 8) hx hb dX6_ofWell_153 (by decide) ?_
  refine lv_isub hx hb dX6_ofWell_155 ?_
  refine x_iald hx hb hK.1 hP (by omega) (by omega) 0 (gw_row (gRow_gave (by omega))) rfl (cl_of_nI (i := 1) (by decide) (by omega)) (vp_in_of_nI (i := 1) (by decide) (by omega) (by omega)) dX6_ofWell_156 ?_
  exact W.iret (v := (G (38 + 2 * w) 1)) hx hb hr (fun tE ht hW => ⟨⟨(G (38 + 2 * w) 1), (), rfl, rfl, x_at ht (hP)⟩, hS.F ht⟩) hS.2.2 dX6_ofWell_157

set_option maxRecDepth 100000 in
set_option maxHeartbeats 4000000 in
/-- ofWell, 10 -/
theorem c_X6_ofWell_10 (l : Launch) (D : va_G) (cy : Nat → ClassId) (lo n : Nat) (w0 : Nat → va_E) (o : Nat) (G T P : Mem) (ho1 : lo ≤ o) (ho2 : o + 118 ≤ lo + n) (nd : Nat) (hG : GI nd G) (w : Nat) (hwl : w < nd)  : Met l yX6_ofWell wsX6_ofWell ({ frames := 1, cells := 0, slots := 0, locals := 22 }) (PcW D cy lo n (gw cy (gw cy (hw cy w0 o P) (o + 50) T) (o + 1) G) [.ref o, .int (nI w), .int (10 : Int32)]) (QiW D lo n (gw cy (gw cy (hw cy w0 o P) (o + 50) T) (o + 1) G) (m_ofWell G P w 10)) 0 0 (fun q : Nat => lo ≤ q) := by
  refine Met.ofW (cc := cX6_ofWell) (maxL := 5) (ret := (some .int)) (by decide) rfl ?_
  intro p e s m args below meth c s₁ B hml hv
  obtain ⟨rfl, hP, hK, hS⟩ := x_entry hv
  have hx := B.exec
  have hb := B.bytes
  have hr := B.returns
  have hts := atoms_spec (ws := wsX6_ofWell) B.pre
  have hown : s.vm.findClass RX6 = some m.cls := findClass_of_methodNamed B.named
  have hlocks := B.notSynchronized
  have iX2 : ∀ w ∈ u_ws RX2 TX2 12, w ∈ wsX6_ofWell := by decide +kernel
  have iX4 : ∀ w ∈ u_ws RX4 TX4 5, w ∈ wsX6_ofWell := by decide +kernel
  have iX6 : ∀ w ∈ u_ws RX6 TX6 11, w ∈ wsX6_ofWell := by decide +kernel
  have hl := lv_entry ([.ref o, .int (nI w), .int (10 : Int32)]) (n := 5) (Nat.le_of_ble_eq_true rfl)
  rw [lg_entry_eq]
  generalize (lg_sl ([.ref o, .int (nI w), .int (10 : Int32)]) ++ List.replicate (5 - (lg_sl ([.ref o, .int (nI w), .int (10 : Int32)])).length) Slot.unset).toArray = ls at hl ⊢
  have hl : lv_has ls 5 [(0, .ref o), (1, .int (nI w)), (2, .int (10 : Int32))] := hl
  have hnd := hG.1
  refine lv_iload_n hx hb dX6_ofWell_0 rfl (lv_at hl 1 rfl) ?_
  refine lv_aload_n hx hb dX6_ofWell_1 rfl (lv_at hl 0 rfl) ?_
  refine x_get (ref := RX6) (C := RX6) (T := TX6) (N := 11) (ci := 6) (v := .ref (o + 1)) hx hb hts iX6 hown hK.1 hP (by omega) (by omega) (((gw_out (by omega)).trans ((gw_out (by omega)).trans (hw_0)))) rfl 0 (by decide) (hts (.fieldLink RX6 10 "PoreField" "ground" "LPoreField$Ground;") (by decide +kernel)) (fun _ h9 => h9) rfl dX6_ofWell_2 ?_
  refine x_get (ref := RX2) (C := RX2) (T := TX2) (N := 12) (ci := 2) (v := .int (G 0 2)) hx hb hts iX2 hown hK.1 hP (by omega) (by omega) (gw_0) rfl 2 (by decide) (hts (.fieldLink RX6 87 "PoreField$Ground" "drilled" "I") (by decide +kernel)) (fun _ h9 => h9) rfl dX6_ofWell_5 ?_
  refine x_callv (va_runS (As := [.int (nI w), .int (G 0 2)]) (rest := []) ⟨hx, hb, hml, hown, hts⟩ (c_X6_needIndex l D cy lo n (gw cy (gw cy (hw cy w0 o P) (o + 50) T) (o + 1) G) w nd (by omega) (by omega) (nI w) (G 0 2) rfl hG.dr) (va_cwS 2 hts gX6_ofWell_X6_needIndex rfl rfl rfl (by decide +kernel) ⟨Nat.le_of_ble_eq_true rfl, Nat.le_of_ble_eq_true rfl⟩) (preS hP hK) rfl rfl hl.1 rfl (lv_room (Nat.le_of_ble_eq_true rfl)) dX6_ofWell_8 ⟨Nat.le_of_ble_eq_true rfl, Nat.le_of_ble_eq_true rfl⟩) hS (fun H locs hP hS => ?_)
  refine lv_iload_n hx hb dX6_ofWell_11 rfl (lv_at hl 2 rfl) ?_
  refine lv_iconst (v := 0) hx hb dX6_ofWell_12 (by decide) ?_
  refine lv_bipush (v := 13) hx hb dX6_ofWell_13 (by decide) ?_
  refine x_callv (va_runS (As := [.int (10 : Int32), .int (0 : Int32), .int (13 : Int32)]) (rest := []) ⟨hx, hb, hml, hown, hts⟩ (c_X6_needWithin l D cy lo n (gw cy (gw cy (hw cy w0 o P) (o + 50) T) (o + 1) G) (10 : Int32) (0 : Int32) (13 : Int32) ((br_le (show (0 : Int32) = nI 0 from rfl) (show (10 : Int32) = nI 10 from rfl) (by omega) (by omega)).mpr (by omega)) ((br_le (show (10 : Int32) = nI 10 from rfl) (show (13 : Int32) = nI 13 from rfl) (by omega) (by omega)).mpr (by omega))) (va_cwS 3 hts gX6_ofWell_X6_needWithin rfl rfl rfl (by decide +kernel) ⟨Nat.le_of_ble_eq_true rfl, Nat.le_of_ble_eq_true rfl⟩) (preS hP hK) rfl rfl hl.1 rfl (lv_room (Nat.le_of_ble_eq_true rfl)) dX6_ofWell_15 ⟨Nat.le_of_ble_eq_true rfl, Nat.le_of_ble_eq_true rfl⟩) hS (fun H locs hP hS => ?_)
  refine lv_aload_n hx hb dX6_ofWell_18 rfl (lv_at hl 0 rfl) ?_
  refine x_get (ref := RX6) (C := RX6) (T := TX6) (N := 11) (ci := 6) (v := .ref (o + 1)) hx hb hts iX6 hown hK.1 hP (by omega) (by omega) (((gw_out (by omega)).trans ((gw_out (by omega)).trans (hw_0)))) rfl 0 (by decide) (hts (.fieldLink RX6 10 "PoreField" "ground" "LPoreField$Ground;") (by decide +kernel)) (fun _ h9 => h9) rfl dX6_ofWell_19 ?_
  refine x_get (ref := RX2) (C := RX2) (T := TX2) (N := 12) (ci := 2) (v := .ref ((o + 1) + 2)) hx hb hts iX2 hown hK.1 hP (by omega) (by omega) (gw_0) rfl 1 (by decide) (hts (.fieldLink RX6 97 "PoreField$Ground" "wells" "[LPoreField$Well;") (by decide +kernel)) (fun _ h9 => h9) rfl dX6_ofWell_22 ?_
  refine lv_iload_n hx hb dX6_ofWell_25 rfl (lv_at hl 1 rfl) ?_
  refine x_aald (b := ((o + 1) + (37 + 2 * w))) hx hb hK.1 hP (by omega) (by omega) 2 (gw_2) rfl (cl_of_nI (i := w) rfl (by omega)) rfl (vp_in_of_nI (i := w) rfl (by omega) (by omega)) dX6_ofWell_26 ?_
  refine lv_astore_n (lv' := [(3, .ref ((o + 1) + (37 + 2 * w))), (0, .ref o), (1, .int (nI w)), (2, .int (10 : Int32))]) hx hb dX6_ofWell_27 rfl hl (by decide) rfl (fun ls hl => ?_)
  refine lv_aload_n hx hb dX6_ofWell_28 rfl (lv_at hl 1 rfl) ?_
  refine x_get (ref := RX6) (C := RX6) (T := TX6) (N := 11) (ci := 6) (v := .ref (o + 99)) hx hb hts iX6 hown hK.1 hP (by omega) (by omega) (((gw_out (by omega)).trans ((gw_out (by omega)).trans (hw_0)))) rfl 2 (by decide) (hts (.fieldLink RX6 21 "PoreField" "logs" "[LPoreField$WellLog;") (by decide +kernel)) (fun _ h9 => h9) rfl dX6_ofWell_29 ?_
  refine lv_iload_n hx hb dX6_ofWell_32 rfl (lv_at hl 2 rfl) ?_
  refine x_aald (b := (o + (103 + 2 * w))) hx hb hK.1 hP (by omega) (by omega) 3 (((gw_out (by omega)).trans ((gw_out (by omega)).trans (hw_99)))) rfl (cl_of_nI (i := w) rfl (by omega)) rfl (vp_in_of_nI (i := w) rfl (by omega) (by omega)) dX6_ofWell_33 ?_
  refine lv_astore (lv' := [(4, .ref (o + (103 + 2 * w))), (3, .ref ((o + 1) + (37 + 2 * w))), (0, .ref o), (1, .int (nI w)), (2, .int (10 : Int32))]) hx hb dX6_ofWell_34 hl (by decide) rfl (fun ls hl => ?_)
  refine lv_iload_n hx hb dX6_ofWell_36 rfl (lv_at hl 4 rfl) ?_
  refine lv_tableIn (tgt := 148) (off := 111) hx hb dX6_ofWell_37 (by decide) (by decide) (by decide) (by decide) ?_
  refine lv_aload_n hx hb dX6_ofWell_148 rfl (lv_at hl 1 rfl) ?_
  refine x_get (ref := RX4) (C := RX4) (T := TX4) (N := 5) (ci := 4) (v := .ref ((o + 1) + (38 + 2 * w))) hx hb hts iX4 hown hK.1 hP (by omega) (by omega) (gw_well (by omega)) rfl 4 (by decide) (hts (.fieldLink RX6 208 "PoreField$Well" "gave" "[I") (by decide +kernel)) (fun _ h9 => h9) rfl dX6_ofWell_149 ?_
  refine lv_iload_n hx hb dX6_ofWell_152 rfl (lv_at hl 4 rfl) ?_
  refine lv_bipush (v := 8) hx hb dX6_ofWell_153 (by decide) ?_
  refine lv_isub hx hb dX6_ofWell_155 ?_
  refine x_iald hx hb hK.1 hP (by omega) (by omega) 0 (gw_row (gRow_gave (by omega))) rfl (cl_of_nI (i := 2) (by decide) (by omega)) (vp_in_of_nI (i := 2) (by decide) (by omega) (by omega)) dX6_ofWell_156 ?_
  exact W.iret (v := (G (38 + 2 * w) 2)) hx hb hr (fun tE ht hW => ⟨⟨(G (38 + 2 * w) 2), (), rfl, rfl, x_at ht (hP)⟩, hS.F ht⟩) hS.2.2 dX6_ofWell_157

set_option maxRecDepth 100000 in
set_option maxHeartbeats 4000000 in
/-- ofWell, 11 -/
theorem c_X6_ofWell_11 (l : Launch) (D : va_G) (cy : Nat → ClassId) (lo n : Nat) (w0 : Nat → va_E) (o : Nat) (G T P : Mem) (ho1 : lo ≤ o) (ho2 : o + 118 ≤ lo + n) (nd : Nat) (hG : GI nd G) (w : Nat) (hwl : w < nd)  : Met l yX6_ofWell wsX6_ofWell ({ frames := 1, cells := 0, slots := 0, locals := 22 }) (PcW D cy lo n (gw cy (gw cy (hw cy w0 o P) (o + 50) T) (o + 1) G) [.ref o, .int (nI w), .int (11 : Int32)]) (QiW D lo n (gw cy (gw cy (hw cy w0 o P) (o + 50) T) (o + 1) G) (m_ofWell G P w 11)) 0 0 (fun q : Nat => lo ≤ q) := by
  refine Met.ofW (cc := cX6_ofWell) (maxL := 5) (ret := (some .int)) (by decide) rfl ?_
  intro p e s m args below meth c s₁ B hml hv
  obtain ⟨rfl, hP, hK, hS⟩ := x_entry hv
  have hx := B.exec
  have hb := B.bytes
  have hr := B.returns
  have hts := atoms_spec (ws := wsX6_ofWell) B.pre
  have hown : s.vm.findClass RX6 = some m.cls := findClass_of_methodNamed B.named
  have hlocks := B.notSynchronized
  have iX2 : ∀ w ∈ u_ws RX2 TX2 12, w ∈ wsX6_ofWell := by decide +kernel
  have iX5 : ∀ w ∈ u_ws RX5 TX5 5, w ∈ wsX6_ofWell := by decide +kernel
  have iX6 : ∀ w ∈ u_ws RX6 TX6 11, w ∈ wsX6_ofWell := by decide +kernel
  have hl := lv_entry ([.ref o, .int (nI w), .int (11 : Int32)]) (n := 5) (Nat.le_of_ble_eq_true rfl)
  rw [lg_entry_eq]
  generalize (lg_sl ([.ref o, .int (nI w), .int (11 : Int32)]) ++ List.replicate (5 - (lg_sl ([.ref o, .int (nI w), .int (11 : Int32)])).length) Slot.unset).toArray = ls at hl ⊢
  have hl : lv_has ls 5 [(0, .ref o), (1, .int (nI w)), (2, .int (11 : Int32))] := hl
  have hnd := hG.1
  refine lv_iload_n hx hb dX6_ofWell_0 rfl (lv_at hl 1 rfl) ?_
  refine lv_aload_n hx hb dX6_ofWell_1 rfl (lv_at hl 0 rfl) ?_
  refine x_get (ref := RX6) (C := RX6) (T := TX6) (N := 11) (ci := 6) (v := .ref (o + 1)) hx hb hts iX6 hown hK.1 hP (by omega) (by omega) (((gw_out (by omega)).trans ((gw_out (by omega)).trans (hw_0)))) rfl 0 (by decide) (hts (.fieldLink RX6 10 "PoreField" "ground" "LPoreField$Ground;") (by decide +kernel)) (fun _ h9 => h9) rfl dX6_ofWell_2 ?_
  refine x_get (ref := RX2) (C := RX2) (T := TX2) (N := 12) (ci := 2) (v := .int (G 0 2)) hx hb hts iX2 hown hK.1 hP (by omega) (by omega) (gw_0) rfl 2 (by decide) (hts (.fieldLink RX6 87 "PoreField$Ground" "drilled" "I") (by decide +kernel)) (fun _ h9 => h9) rfl dX6_ofWell_5 ?_
  refine x_callv (va_runS (As := [.int (nI w), .int (G 0 2)]) (rest := []) ⟨hx, hb, hml, hown, hts⟩ (c_X6_needIndex l D cy lo n (gw cy (gw cy (hw cy w0 o P) (o + 50) T) (o + 1) G) w nd (by omega) (by omega) (nI w) (G 0 2) rfl hG.dr) (va_cwS 2 hts gX6_ofWell_X6_needIndex rfl rfl rfl (by decide +kernel) ⟨Nat.le_of_ble_eq_true rfl, Nat.le_of_ble_eq_true rfl⟩) (preS hP hK) rfl rfl hl.1 rfl (lv_room (Nat.le_of_ble_eq_true rfl)) dX6_ofWell_8 ⟨Nat.le_of_ble_eq_true rfl, Nat.le_of_ble_eq_true rfl⟩) hS (fun H locs hP hS => ?_)
  refine lv_iload_n hx hb dX6_ofWell_11 rfl (lv_at hl 2 rfl) ?_
  refine lv_iconst (v := 0) hx hb dX6_ofWell_12 (by decide) ?_
  refine lv_bipush (v := 13) hx hb dX6_ofWell_13 (by decide) ?_
  refine x_callv (va_runS (As := [.int (11 : Int32), .int (0 : Int32), .int (13 : Int32)]) (rest := []) ⟨hx, hb, hml, hown, hts⟩ (c_X6_needWithin l D cy lo n (gw cy (gw cy (hw cy w0 o P) (o + 50) T) (o + 1) G) (11 : Int32) (0 : Int32) (13 : Int32) ((br_le (show (0 : Int32) = nI 0 from rfl) (show (11 : Int32) = nI 11 from rfl) (by omega) (by omega)).mpr (by omega)) ((br_le (show (11 : Int32) = nI 11 from rfl) (show (13 : Int32) = nI 13 from rfl) (by omega) (by omega)).mpr (by omega))) (va_cwS 3 hts gX6_ofWell_X6_needWithin rfl rfl rfl (by decide +kernel) ⟨Nat.le_of_ble_eq_true rfl, Nat.le_of_ble_eq_true rfl⟩) (preS hP hK) rfl rfl hl.1 rfl (lv_room (Nat.le_of_ble_eq_true rfl)) dX6_ofWell_15 ⟨Nat.le_of_ble_eq_true rfl, Nat.le_of_ble_eq_true rfl⟩) hS (fun H locs hP hS => ?_)
  refine lv_aload_n hx hb dX6_ofWell_18 rfl (lv_at hl 0 rfl) ?_
  refine x_get (ref := RX6) (C := RX6) (T := TX6) (N := 11) (ci := 6) (v := .ref (o + 1)) hx hb hts iX6 hown hK.1 hP (by omega) (by omega) (((gw_out (by omega)).trans ((gw_out (by omega)).trans (hw_0)))) rfl 0 (by decide) (hts (.fieldLink RX6 10 "PoreField" "ground" "LPoreField$Ground;") (by decide +kernel)) (fun _ h9 => h9) rfl dX6_ofWell_19 ?_
  refine x_get (ref := RX2) (C := RX2) (T := TX2) (N := 12) (ci := 2) (v := .ref ((o + 1) + 2)) hx hb hts iX2 hown hK.1 hP (by omega) (by omega) (gw_0) rfl 1 (by decide) (hts (.fieldLink RX6 97 "PoreField$Ground" "wells" "[LPoreField$Well;") (by decide +kernel)) (fun _ h9 => h9) rfl dX6_ofWell_22 ?_
  refine lv_iload_n hx hb dX6_ofWell_25 rfl (lv_at hl 1 rfl) ?_
  refine x_aald (b := ((o + 1) + (37 + 2 * w))) hx hb hK.1 hP (by omega) (by omega) 2 (gw_2) rfl (cl_of_nI (i := w) rfl (by omega)) rfl (vp_in_of_nI (i := w) rfl (by omega) (by omega)) dX6_ofWell_26 ?_
  refine lv_astore_n (lv' := [(3, .ref ((o + 1) + (37 + 2 * w))), (0, .ref o), (1, .int (nI w)), (2, .int (11 : Int32))]) hx hb dX6_ofWell_27 rfl hl (by decide) rfl (fun ls hl => ?_)
  refine lv_aload_n hx hb dX6_ofWell_28 rfl (lv_at hl 1 rfl) ?_
  refine x_get (ref := RX6) (C := RX6) (T := TX6) (N := 11) (ci := 6) (v := .ref (o + 99)) hx hb hts iX6 hown hK.1 hP (by omega) (by omega) (((gw_out (by omega)).trans ((gw_out (by omega)).trans (hw_0)))) rfl 2 (by decide) (hts (.fieldLink RX6 21 "PoreField" "logs" "[LPoreField$WellLog;") (by decide +kernel)) (fun _ h9 => h9) rfl dX6_ofWell_29 ?_
  refine lv_iload_n hx hb dX6_ofWell_32 rfl (lv_at hl 2 rfl) ?_
  refine x_aald (b := (o + (103 + 2 * w))) hx hb hK.1 hP (by omega) (by omega) 3 (((gw_out (by omega)).trans ((gw_out (by omega)).trans (hw_99)))) rfl (cl_of_nI (i := w) rfl (by omega)) rfl (vp_in_of_nI (i := w) rfl (by omega) (by omega)) dX6_ofWell_33 ?_
  refine lv_astore (lv' := [(4, .ref (o + (103 + 2 * w))), (3, .ref ((o + 1) + (37 + 2 * w))), (0, .ref o), (1, .int (nI w)), (2, .int (11 : Int32))]) hx hb dX6_ofWell_34 hl (by decide) rfl (fun ls hl => ?_)
  refine lv_iload_n hx hb dX6_ofWell_36 rfl (lv_at hl 4 rfl) ?_
  refine lv_tableIn (tgt := 158) (off := 121) hx hb dX6_ofWell_37 (by decide) (by decide) (by decide) (by decide) ?_
  refine lv_aload hx hb dX6_ofWell_158 (lv_at hl 0 rfl) ?_
  refine x_get (ref := RX5) (C := RX5) (T := TX5) (N := 5) (ci := 5) (v := .int (P (103 + 2 * w) 3)) hx hb hts iX5 hown hK.1 hP (by omega) (by omega) (((gw_out (by omega)).trans ((gw_out (by omega)).trans (hw_log (by omega))))) rfl 3 (by decide) (hts (.fieldLink RX6 211 "PoreField$WellLog" "oilEver" "I") (by decide +kernel)) (fun _ h9 => h9) rfl dX6_ofWell_160 ?_
  exact W.iret (v := (P (103 + 2 * w) 3)) hx hb hr (fun tE ht hW => ⟨⟨(P (103 + 2 * w) 3), (), rfl, rfl, x_at ht (hP)⟩, hS.F ht⟩) hS.2.2 dX6_ofWell_163

set_option maxRecDepth 100000 in
set_option maxHeartbeats 4000000 in
/-- ofWell, 12 -/
theorem c_X6_ofWell_12 (l : Launch) (D : va_G) (cy : Nat → ClassId) (lo n : Nat) (w0 : Nat → va_E) (o : Nat) (G T P : Mem) (ho1 : lo ≤ o) (ho2 : o + 118 ≤ lo + n) (nd : Nat) (hG : GI nd G) (w : Nat) (hwl : w < nd)  : Met l yX6_ofWell wsX6_ofWell ({ frames := 1, cells := 0, slots := 0, locals := 22 }) (PcW D cy lo n (gw cy (gw cy (hw cy w0 o P) (o + 50) T) (o + 1) G) [.ref o, .int (nI w), .int (12 : Int32)]) (QiW D lo n (gw cy (gw cy (hw cy w0 o P) (o + 50) T) (o + 1) G) (m_ofWell G P w 12)) 0 0 (fun q : Nat => lo ≤ q) := by
  refine Met.ofW (cc := cX6_ofWell) (maxL := 5) (ret := (some .int)) (by decide) rfl ?_
  intro p e s m args below meth c s₁ B hml hv
  obtain ⟨rfl, hP, hK, hS⟩ := x_entry hv
  have hx := B.exec
  have hb := B.bytes
  have hr := B.returns
  have hts := atoms_spec (ws := wsX6_ofWell) B.pre
  have hown : s.vm.findClass RX6 = some m.cls := findClass_of_methodNamed B.named
  have hlocks := B.notSynchronized
  have iX2 : ∀ w ∈ u_ws RX2 TX2 12, w ∈ wsX6_ofWell := by decide +kernel
  have iX5 : ∀ w ∈ u_ws RX5 TX5 5, w ∈ wsX6_ofWell := by decide +kernel
  have iX6 : ∀ w ∈ u_ws RX6 TX6 11, w ∈ wsX6_ofWell := by decide +kernel
  have hl := lv_entry ([.ref o, .int (nI w), .int (12 : Int32)]) (n := 5) (Nat.le_of_ble_eq_true rfl)
  rw [lg_entry_eq]
  generalize (lg_sl ([.ref o, .int (nI w), .int (12 : Int32)]) ++ List.replicate (5 - (lg_sl ([.ref o, .int (nI w), .int (12 : Int32)])).length) Slot.unset).toArray = ls at hl ⊢
  have hl : lv_has ls 5 [(0, .ref o), (1, .int (nI w)), (2, .int (12 : Int32))] := hl
  have hnd := hG.1
  refine lv_iload_n hx hb dX6_ofWell_0 rfl (lv_at hl 1 rfl) ?_
  refine lv_aload_n hx hb dX6_ofWell_1 rfl (lv_at hl 0 rfl) ?_
  refine x_get (ref := RX6) (C := RX6) (T := TX6) (N := 11) (ci := 6) (v := .ref (o + 1)) hx hb hts iX6 hown hK.1 hP (by omega) (by omega) (((gw_out (by omega)).trans ((gw_out (by omega)).trans (hw_0)))) rfl 0 (by decide) (hts (.fieldLink RX6 10 "PoreField" "ground" "LPoreField$Ground;") (by decide +kernel)) (fun _ h9 => h9) rfl dX6_ofWell_2 ?_
  refine x_get (ref := RX2) (C := RX2) (T := TX2) (N := 12) (ci := 2) (v := .int (G 0 2)) hx hb hts iX2 hown hK.1 hP (by omega) (by omega) (gw_0) rfl 2 (by decide) (hts (.fieldLink RX6 87 "PoreField$Ground" "drilled" "I") (by decide +kernel)) (fun _ h9 => h9) rfl dX6_ofWell_5 ?_
  refine x_callv (va_runS (As := [.int (nI w), .int (G 0 2)]) (rest := []) ⟨hx, hb, hml, hown, hts⟩ (c_X6_needIndex l D cy lo n (gw cy (gw cy (hw cy w0 o P) (o + 50) T) (o + 1) G) w nd (by omega) (by omega) (nI w) (G 0 2) rfl hG.dr) (va_cwS 2 hts gX6_ofWell_X6_needIndex rfl rfl rfl (by decide +kernel) ⟨Nat.le_of_ble_eq_true rfl, Nat.le_of_ble_eq_true rfl⟩) (preS hP hK) rfl rfl hl.1 rfl (lv_room (Nat.le_of_ble_eq_true rfl)) dX6_ofWell_8 ⟨Nat.le_of_ble_eq_true rfl, Nat.le_of_ble_eq_true rfl⟩) hS (fun H locs hP hS => ?_)
  refine lv_iload_n hx hb dX6_ofWell_11 rfl (lv_at hl 2 rfl) ?_
  refine lv_iconst (v := 0) hx hb dX6_ofWell_12 (by decide) ?_
  refine lv_bipush (v := 13) hx hb dX6_ofWell_13 (by decide) ?_
  refine x_callv (va_runS (As := [.int (12 : Int32), .int (0 : Int32), .int (13 : Int32)]) (rest := []) ⟨hx, hb, hml, hown, hts⟩ (c_X6_needWithin l D cy lo n (gw cy (gw cy (hw cy w0 o P) (o + 50) T) (o + 1) G) (12 : Int32) (0 : Int32) (13 : Int32) ((br_le (show (0 : Int32) = nI 0 from rfl) (show (12 : Int32) = nI 12 from rfl) (by omega) (by omega)).mpr (by omega)) ((br_le (show (12 : Int32) = nI 12 from rfl) (show (13 : Int32) = nI 13 from rfl) (by omega) (by omega)).mpr (by omega))) (va_cwS 3 hts gX6_ofWell_X6_needWithin rfl rfl rfl (by decide +kernel) ⟨Nat.le_of_ble_eq_true rfl, Nat.le_of_ble_eq_true rfl⟩) (preS hP hK) rfl rfl hl.1 rfl (lv_room (Nat.le_of_ble_eq_true rfl)) dX6_ofWell_15 ⟨Nat.le_of_ble_eq_true rfl, Nat.le_of_ble_eq_true rfl⟩) hS (fun H locs hP hS => ?_)
  refine lv_aload_n hx hb dX6_ofWell_18 rfl (lv_at hl 0 rfl) ?_
  refine x_get (ref := RX6) (C := RX6) (T := TX6) (N := 11) (ci := 6) (v := .ref (o + 1)) hx hb hts iX6 hown hK.1 hP (by omega) (by omega) (((gw_out (by omega)).trans ((gw_out (by omega)).trans (hw_0)))) rfl 0 (by decide) (hts (.fieldLink RX6 10 "PoreField" "ground" "LPoreField$Ground;") (by decide +kernel)) (fun _ h9 => h9) rfl dX6_ofWell_19 ?_
  refine x_get (ref := RX2) (C := RX2) (T := TX2) (N := 12) (ci := 2) (v := .ref ((o + 1) + 2)) hx hb hts iX2 hown hK.1 hP (by omega) (by omega) (gw_0) rfl 1 (by decide) (hts (.fieldLink RX6 97 "PoreField$Ground" "wells" "[LPoreField$Well;") (by decide +kernel)) (fun _ h9 => h9) rfl dX6_ofWell_22 ?_
  refine lv_iload_n hx hb dX6_ofWell_25 rfl (lv_at hl 1 rfl) ?_
  refine x_aald (b := ((o + 1) + (37 + 2 * w))) hx hb hK.1 hP (by omega) (by omega) 2 (gw_2) rfl (cl_of_nI (i := w) rfl (by omega)) rfl (vp_in_of_nI (i := w) rfl (by omega) (by omega)) dX6_ofWell_26 ?_
  refine lv_astore_n (lv' := [(3, .ref ((o + 1) + (37 + 2 * w))), (0, .ref o), (1, .int (nI w)), (2, .int (12 : Int32))]) hx hb dX6_ofWell_27 rfl hl (by decide) rfl (fun ls hl => ?_)
  refine lv_aload_n hx hb dX6_ofWell_28 rfl (lv_at hl 1 rfl) ?_
  refine x_get (ref := RX6) (C := RX6) (T := TX6) (N := 11) (ci := 6) (v := .ref (o + 99)) hx hb hts iX6 hown hK.1 hP (by omega) (by omega) (((gw_out (by omega)).trans ((gw_out (by omega)).trans (hw_0)))) rfl 2 (by decide) (hts (.fieldLink RX6 21 "PoreField" "logs" "[LPoreField$WellLog;") (by decide +kernel)) (fun _ h9 => h9) rfl dX6_ofWell_29 ?_
  refine lv_iload_n hx hb dX6_ofWell_32 rfl (lv_at hl 2 rfl) ?_
  refine x_aald (b := (o + (103 + 2 * w))) hx hb hK.1 hP (by omega) (by omega) 3 (((gw_out (by omega)).trans ((gw_out (by omega)).trans (hw_99)))) rfl (cl_of_nI (i := w) rfl (by omega)) rfl (vp_in_of_nI (i := w) rfl (by omega) (by omega)) dX6_ofWell_33 ?_
  refine lv_astore (lv' := [(4, .ref (o + (103 + 2 * w))), (3, .ref ((o + 1) + (37 + 2 * w))), (0, .ref o), (1, .int (nI w)), (2, .int (12 : Int32))]) hx hb dX6_ofWell_34 hl (by decide) rfl (fun ls hl => ?_)
  refine lv_iload_n hx hb dX6_ofWell_36 rfl (lv_at hl 4 rfl) ?_
  refine lv_tableIn (tgt := 164) (off := 127) hx hb dX6_ofWell_37 (by decide) (by decide) (by decide) (by decide) ?_
  refine lv_aload hx hb dX6_ofWell_164 (lv_at hl 0 rfl) ?_
  refine x_get (ref := RX5) (C := RX5) (T := TX5) (N := 5) (ci := 5) (v := .int (P (103 + 2 * w) 4)) hx hb hts iX5 hown hK.1 hP (by omega) (by omega) (((gw_out (by omega)).trans ((gw_out (by omega)).trans (hw_log (by omega))))) rfl 4 (by decide) (hts (.fieldLink RX6 214 "PoreField$WellLog" "allocatedEver" "I") (by decide +kernel)) (fun _ h9 => h9) rfl dX6_ofWell_166 ?_
  exact W.iret (v := (P (103 + 2 * w) 4)) hx hb hr (fun tE ht hW => ⟨⟨(P (103 + 2 * w) 4), (), rfl, rfl, x_at ht (hP)⟩, hS.F ht⟩) hS.2.2 dX6_ofWell_169

set_option maxRecDepth 100000 in
set_option maxHeartbeats 4000000 in
/-- ofWell, 13 -/
theorem c_X6_ofWell_13 (l : Launch) (D : va_G) (cy : Nat → ClassId) (lo n : Nat) (w0 : Nat → va_E) (o : Nat) (G T P : Mem) (ho1 : lo ≤ o) (ho2 : o + 118 ≤ lo + n) (nd : Nat) (hG : GI nd G) (w : Nat) (hwl : w < nd)  : Met l yX6_ofWell wsX6_ofWell ({ frames := 1, cells := 0, slots := 0, locals := 22 }) (PcW D cy lo n (gw cy (gw cy (hw cy w0 o P) (o + 50) T) (o + 1) G) [.ref o, .int (nI w), .int (13 : Int32)]) (QiW D lo n (gw cy (gw cy (hw cy w0 o P) (o + 50) T) (o + 1) G) (m_ofWell G P w 13)) 0 0 (fun q : Nat => lo ≤ q) := by
  refine Met.ofW (cc := cX6_ofWell) (maxL := 5) (ret := (some .int)) (by decide) rfl ?_
  intro p e s m args below meth c s₁ B hml hv
  obtain ⟨rfl, hP, hK, hS⟩ := x_entry hv
  have hx := B.exec
  have hb := B.bytes
  have hr := B.returns
  have hts := atoms_spec (ws := wsX6_ofWell) B.pre
  have hown : s.vm.findClass RX6 = some m.cls := findClass_of_methodNamed B.named
  have hlocks := B.notSynchronized
  have iX2 : ∀ w ∈ u_ws RX2 TX2 12, w ∈ wsX6_ofWell := by decide +kernel
  have iX5 : ∀ w ∈ u_ws RX5 TX5 5, w ∈ wsX6_ofWell := by decide +kernel
  have iX6 : ∀ w ∈ u_ws RX6 TX6 11, w ∈ wsX6_ofWell := by decide +kernel
  have hl := lv_entry ([.ref o, .int (nI w), .int (13 : Int32)]) (n := 5) (Nat.le_of_ble_eq_true rfl)
  rw [lg_entry_eq]
  generalize (lg_sl ([.ref o, .int (nI w), .int (13 : Int32)]) ++ List.replicate (5 - (lg_sl ([.ref o, .int (nI w), .int (13 : Int32)])).length) Slot.unset).toArray = ls at hl ⊢
  have hl : lv_has ls 5 [(0, .ref o), (1, .int (nI w)), (2, .int (13 : Int32))] := hl
  have hnd := hG.1
  refine lv_iload_n hx hb dX6_ofWell_0 rfl (lv_at hl 1 rfl) ?_
  refine lv_aload_n hx hb dX6_ofWell_1 rfl (lv_at hl 0 rfl) ?_
  refine x_get (ref := RX6) (C := RX6) (T := TX6) (N := 11) (ci := 6) (v := .ref (o + 1)) hx hb hts iX6 hown hK.1 hP (by omega) (by omega) (((gw_out (by omega)).trans ((gw_out (by omega)).trans (hw_0)))) rfl 0 (by decide) (hts (.fieldLink RX6 10 "PoreField" "ground" "LPoreField$Ground;") (by decide +kernel)) (fun _ h9 => h9) rfl dX6_ofWell_2 ?_
  refine x_get (ref := RX2) (C := RX2) (T := TX2) (N := 12) (ci := 2) (v := .int (G 0 2)) hx hb hts iX2 hown hK.1 hP (by omega) (by omega) (gw_0) rfl 2 (by decide) (hts (.fieldLink RX6 87 "PoreField$Ground" "drilled" "I") (by decide +kernel)) (fun _ h9 => h9) rfl dX6_ofWell_5 ?_
  refine x_callv (va_runS (As := [.int (nI w), .int (G 0 2)]) (rest := []) ⟨hx, hb, hml, hown, hts⟩ (c_X6_needIndex l D cy lo n (gw cy (gw cy (hw cy w0 o P) (o + 50) T) (o + 1) G) w nd (by omega) (by omega) (nI w) (G 0 2) rfl hG.dr) (va_cwS 2 hts gX6_ofWell_X6_needIndex rfl rfl rfl (by decide +kernel) ⟨Nat.le_of_ble_eq_true rfl, Nat.le_of_ble_eq_true rfl⟩) (preS hP hK) rfl rfl hl.1 rfl (lv_room (Nat.le_of_ble_eq_true rfl)) dX6_ofWell_8 ⟨Nat.le_of_ble_eq_true rfl, Nat.le_of_ble_eq_true rfl⟩) hS (fun H locs hP hS => ?_)
  refine lv_iload_n hx hb dX6_ofWell_11 rfl (lv_at hl 2 rfl) ?_
  refine lv_iconst (v := 0) hx hb dX6_ofWell_12 (by decide) ?_
  refine lv_bipush (v := 13) hx hb dX6_ofWell_13 (by decide) ?_
  refine x_callv (va_runS (As := [.int (13 : Int32), .int (0 : Int32), .int (13 : Int32)]) (rest := []) ⟨hx, hb, hml, hown, hts⟩ (c_X6_needWithin l D cy lo n (gw cy (gw cy (hw cy w0 o P) (o + 50) T) (o + 1) G) (13 : Int32) (0 : Int32) (13 : Int32) ((br_le (show (0 : Int32) = nI 0 from rfl) (show (13 : Int32) = nI 13 from rfl) (by omega) (by omega)).mpr (by omega)) ((br_le (show (13 : Int32) = nI 13 from rfl) (show (13 : Int32) = nI 13 from rfl) (by omega) (by omega)).mpr (by omega))) (va_cwS 3 hts gX6_ofWell_X6_needWithin rfl rfl rfl (by decide +kernel) ⟨Nat.le_of_ble_eq_true rfl, Nat.le_of_ble_eq_true rfl⟩) (preS hP hK) rfl rfl hl.1 rfl (lv_room (Nat.le_of_ble_eq_true rfl)) dX6_ofWell_15 ⟨Nat.le_of_ble_eq_true rfl, Nat.le_of_ble_eq_true rfl⟩) hS (fun H locs hP hS => ?_)
  refine lv_aload_n hx hb dX6_ofWell_18 rfl (lv_at hl 0 rfl) ?_
  refine x_get (ref := RX6) (C := RX6) (T := TX6) (N := 11) (ci := 6) (v := .ref (o + 1)) hx hb hts iX6 hown hK.1 hP (by omega) (by omega) (((gw_out (by omega)).trans ((gw_out (by omega)).trans (hw_0)))) rfl 0 (by decide) (hts (.fieldLink RX6 10 "PoreField" "ground" "LPoreField$Ground;") (by decide +kernel)) (fun _ h9 => h9) rfl dX6_ofWell_19 ?_
  refine x_get (ref := RX2) (C := RX2) (T := TX2) (N := 12) (ci := 2) (v := .ref ((o + 1) + 2)) hx hb hts iX2 hown hK.1 hP (by omega) (by omega) (gw_0) rfl 1 (by decide) (hts (.fieldLink RX6 97 "PoreField$Ground" "wells" "[LPoreField$Well;") (by decide +kernel)) (fun _ h9 => h9) rfl dX6_ofWell_22 ?_
  refine lv_iload_n hx hb dX6_ofWell_25 rfl (lv_at hl 1 rfl) ?_
  refine x_aald (b := ((o + 1) + (37 + 2 * w))) hx hb hK.1 hP (by omega) (by omega) 2 (gw_2) rfl (cl_of_nI (i := w) rfl (by omega)) rfl (vp_in_of_nI (i := w) rfl (by omega) (by omega)) dX6_ofWell_26 ?_
  refine lv_astore_n (lv' := [(3, .ref ((o + 1) + (37 + 2 * w))), (0, .ref o), (1, .int (nI w)), (2, .int (13 : Int32))]) hx hb dX6_ofWell_27 rfl hl (by decide) rfl (fun ls hl => ?_)
  refine lv_aload_n hx hb dX6_ofWell_28 rfl (lv_at hl 1 rfl) ?_
  refine x_get (ref := RX6) (C := RX6) (T := TX6) (N := 11) (ci := 6) (v := .ref (o + 99)) hx hb hts iX6 hown hK.1 hP (by omega) (by omega) (((gw_out (by omega)).trans ((gw_out (by omega)).trans (hw_0)))) rfl 2 (by decide) (hts (.fieldLink RX6 21 "PoreField" "logs" "[LPoreField$WellLog;") (by decide +kernel)) (fun _ h9 => h9) rfl dX6_ofWell_29 ?_
  refine lv_iload_n hx hb dX6_ofWell_32 rfl (lv_at hl 2 rfl) ?_
  refine x_aald (b := (o + (103 + 2 * w))) hx hb hK.1 hP (by omega) (by omega) 3 (((gw_out (by omega)).trans ((gw_out (by omega)).trans (hw_99)))) rfl (cl_of_nI (i := w) rfl (by omega)) rfl (vp_in_of_nI (i := w) rfl (by omega) (by omega)) dX6_ofWell_33 ?_
  refine lv_astore (lv' := [(4, .ref (o + (103 + 2 * w))), (3, .ref ((o + 1) + (37 + 2 * w))), (0, .ref o), (1, .int (nI w)), (2, .int (13 : Int32))]) hx hb dX6_ofWell_34 hl (by decide) rfl (fun ls hl => ?_)
  refine lv_iload_n hx hb dX6_ofWell_36 rfl (lv_at hl 4 rfl) ?_
  refine lv_tableOut (tgt := 170) hx hb dX6_ofWell_37 (by decide) (by decide) ?_
  refine lv_aload hx hb dX6_ofWell_170 (lv_at hl 0 rfl) ?_
  refine x_get (ref := RX5) (C := RX5) (T := TX5) (N := 5) (ci := 5) (v := .int (P (103 + 2 * w) 1)) hx hb hts iX5 hown hK.1 hP (by omega) (by omega) (((gw_out (by omega)).trans ((gw_out (by omega)).trans (hw_log (by omega))))) rfl 1 (by decide) (hts (.fieldLink RX6 121 "PoreField$WellLog" "isToTest" "Z") (by decide +kernel)) (fun _ h9 => h9) rfl dX6_ofWell_172 ?_
  refine lv_if_eq (tgt := 182) hx hb dX6_ofWell_175 (by decide) (fun c_175 => ?_) (fun c_175 => ?_)
  · refine lv_iconst (v := 0) hx hb dX6_ofWell_182 (by decide) ?_
    exact W.iret (v := (0 : Int32)) hx hb hr (fun tE ht hW => ⟨⟨(0 : Int32), (), rfl, (by simp only [m_ofWell, if_pos c_175]), x_at ht (hP)⟩, hS.F ht⟩) hS.2.2 dX6_ofWell_183
  · refine lv_iconst (v := 1) hx hb dX6_ofWell_178 (by decide) ?_
    refine lv_goto (tgt := 183) hx hb dX6_ofWell_179 (by decide) ?_
    exact W.iret (v := (1 : Int32)) hx hb hr (fun tE ht hW => ⟨⟨(1 : Int32), (), rfl, (by simp only [m_ofWell, if_neg c_175]), x_at ht (hP)⟩, hS.F ht⟩) hS.2.2 dX6_ofWell_183

set_option maxRecDepth 100000 in
set_option maxHeartbeats 4000000 in
/-- ofWell -/
theorem c_X6_ofWell (l : Launch) (D : va_G) (cy : Nat → ClassId) (lo n : Nat) (w0 : Nat → va_E) (o : Nat) (G T P : Mem) (ho1 : lo ≤ o) (ho2 : o + 118 ≤ lo + n) (nd : Nat) (hG : GI nd G) (w : Nat) (hwl : w < nd) (k : Nat) (hk : k < 14) : Met l yX6_ofWell wsX6_ofWell ({ frames := 1, cells := 0, slots := 0, locals := 22 }) (PcW D cy lo n (gw cy (gw cy (hw cy w0 o P) (o + 50) T) (o + 1) G) [.ref o, .int (nI w), .int (nI k)]) (QiW D lo n (gw cy (gw cy (hw cy w0 o P) (o + 50) T) (o + 1) G) (m_ofWell G P w k)) 0 0 (fun q : Nat => lo ≤ q) := by
  match k, hk with
  | 0, _ => exact c_X6_ofWell_0 l D cy lo n w0 o G T P ho1 ho2 nd hG w hwl
  | 1, _ => exact c_X6_ofWell_1 l D cy lo n w0 o G T P ho1 ho2 nd hG w hwl
  | 2, _ => exact c_X6_ofWell_2 l D cy lo n w0 o G T P ho1 ho2 nd hG w hwl
  | 3, _ => exact c_X6_ofWell_3 l D cy lo n w0 o G T P ho1 ho2 nd hG w hwl
  | 4, _ => exact c_X6_ofWell_4 l D cy lo n w0 o G T P ho1 ho2 nd hG w hwl
  | 5, _ => exact c_X6_ofWell_5 l D cy lo n w0 o G T P ho1 ho2 nd hG w hwl
  | 6, _ => exact c_X6_ofWell_6 l D cy lo n w0 o G T P ho1 ho2 nd hG w hwl
  | 7, _ => exact c_X6_ofWell_7 l D cy lo n w0 o G T P ho1 ho2 nd hG w hwl
  | 8, _ => exact c_X6_ofWell_8 l D cy lo n w0 o G T P ho1 ho2 nd hG w hwl
  | 9, _ => exact c_X6_ofWell_9 l D cy lo n w0 o G T P ho1 ho2 nd hG w hwl
  | 10, _ => exact c_X6_ofWell_10 l D cy lo n w0 o G T P ho1 ho2 nd hG w hwl
  | 11, _ => exact c_X6_ofWell_11 l D cy lo n w0 o G T P ho1 ho2 nd hG w hwl
  | 12, _ => exact c_X6_ofWell_12 l D cy lo n w0 o G T P ho1 ho2 nd hG w hwl
  | 13, _ => exact c_X6_ofWell_13 l D cy lo n w0 o G T P ho1 ho2 nd hG w hwl
  | k + 14, h => exact absurd h (by omega)

set_option maxRecDepth 100000 in
set_option maxHeartbeats 4000000 in
/-- ofPartner, 0 -/
theorem c_X6_ofPartner_0 (l : Launch) (D : va_G) (cy : Nat → ClassId) (lo n : Nat) (w0 : Nat → va_E) (o : Nat) (G T P : Mem) (ho1 : lo ≤ o) (ho2 : o + 118 ≤ lo + n) (i : Nat) (hi : i < 3)  : Met l yX6_ofPartner wsX6_ofPartner ({ frames := 1, cells := 0, slots := 0, locals := 22 }) (PcW D cy lo n (gw cy (gw cy (hw cy w0 o P) (o + 50) T) (o + 1) G) [.ref o, .int (nI i), .int (0 : Int32)]) (QiW D lo n (gw cy (gw cy (hw cy w0 o P) (o + 50) T) (o + 1) G) (P (115 + i) 0)) 0 0 (fun q : Nat => lo ≤ q) := by
  refine Met.ofW (cc := cX6_ofPartner) (maxL := 4) (ret := (some .int)) (by decide) rfl ?_
  intro p e s m args below meth c s₁ B hml hv
  obtain ⟨rfl, hP, hK, hS⟩ := x_entry hv
  have hx := B.exec
  have hb := B.bytes
  have hr := B.returns
  have hts := atoms_spec (ws := wsX6_ofPartner) B.pre
  have hown : s.vm.findClass RX6 = some m.cls := findClass_of_methodNamed B.named
  have hlocks := B.notSynchronized
  have iX3 : ∀ w ∈ u_ws RX3 TX3 4, w ∈ wsX6_ofPartner := by decide +kernel
  have iX6 : ∀ w ∈ u_ws RX6 TX6 11, w ∈ wsX6_ofPartner := by decide +kernel
  have hl := lv_entry ([.ref o, .int (nI i), .int (0 : Int32)]) (n := 4) (Nat.le_of_ble_eq_true rfl)
  rw [lg_entry_eq]
  generalize (lg_sl ([.ref o, .int (nI i), .int (0 : Int32)]) ++ List.replicate (4 - (lg_sl ([.ref o, .int (nI i), .int (0 : Int32)])).length) Slot.unset).toArray = ls at hl ⊢
  have hl : lv_has ls 4 [(0, .ref o), (1, .int (nI i)), (2, .int (0 : Int32))] := hl
  refine lv_iload_n hx hb dX6_ofPartner_0 rfl (lv_at hl 1 rfl) ?_
  refine lv_iconst (v := 3) hx hb dX6_ofPartner_1 (by decide) ?_
  refine x_callv (va_runS (As := [.int (nI i), .int (3 : Int32)]) (rest := []) ⟨hx, hb, hml, hown, hts⟩ (c_X6_needIndex l D cy lo n (gw cy (gw cy (hw cy w0 o P) (o + 50) T) (o + 1) G) i 3 (by omega) (by omega) (nI i) (3 : Int32) rfl rfl) (va_cwS 2 hts gX6_ofPartner_X6_needIndex rfl rfl rfl (by decide +kernel) ⟨Nat.le_of_ble_eq_true rfl, Nat.le_of_ble_eq_true rfl⟩) (preS hP hK) rfl rfl hl.1 rfl (lv_room (Nat.le_of_ble_eq_true rfl)) dX6_ofPartner_2 ⟨Nat.le_of_ble_eq_true rfl, Nat.le_of_ble_eq_true rfl⟩) hS (fun H locs hP hS => ?_)
  refine lv_iload_n hx hb dX6_ofPartner_5 rfl (lv_at hl 2 rfl) ?_
  refine lv_iconst (v := 0) hx hb dX6_ofPartner_6 (by decide) ?_
  refine lv_iconst (v := 3) hx hb dX6_ofPartner_7 (by decide) ?_
  refine x_callv (va_runS (As := [.int (0 : Int32), .int (0 : Int32), .int (3 : Int32)]) (rest := []) ⟨hx, hb, hml, hown, hts⟩ (c_X6_needWithin l D cy lo n (gw cy (gw cy (hw cy w0 o P) (o + 50) T) (o + 1) G) (0 : Int32) (0 : Int32) (3 : Int32) ((br_le (show (0 : Int32) = nI 0 from rfl) (show (0 : Int32) = nI 0 from rfl) (by omega) (by omega)).mpr (by omega)) ((br_le (show (0 : Int32) = nI 0 from rfl) (show (3 : Int32) = nI 3 from rfl) (by omega) (by omega)).mpr (by omega))) (va_cwS 3 hts gX6_ofPartner_X6_needWithin rfl rfl rfl (by decide +kernel) ⟨Nat.le_of_ble_eq_true rfl, Nat.le_of_ble_eq_true rfl⟩) (preS hP hK) rfl rfl hl.1 rfl (lv_room (Nat.le_of_ble_eq_true rfl)) dX6_ofPartner_8 ⟨Nat.le_of_ble_eq_true rfl, Nat.le_of_ble_eq_true rfl⟩) hS (fun H locs hP hS => ?_)
  refine lv_aload_n hx hb dX6_ofPartner_11 rfl (lv_at hl 0 rfl) ?_
  refine x_get (ref := RX6) (C := RX6) (T := TX6) (N := 11) (ci := 6) (v := .ref (o + 100)) hx hb hts iX6 hown hK.1 hP (by omega) (by omega) (((gw_out (by omega)).trans ((gw_out (by omega)).trans (hw_0)))) rfl 3 (by decide) (hts (.fieldLink RX6 27 "PoreField" "partners" "[LPoreField$Partner;") (by decide +kernel)) (fun _ h9 => h9) rfl dX6_ofPartner_12 ?_
  refine lv_iload_n hx hb dX6_ofPartner_15 rfl (lv_at hl 1 rfl) ?_
  refine x_aald (b := (o + (115 + i))) hx hb hK.1 hP (by omega) (by omega) 4 (((gw_out (by omega)).trans ((gw_out (by omega)).trans (hw_100)))) rfl (cl_of_nI (i := i) rfl (by omega)) rfl (vp_in_of_nI (i := i) rfl (by omega) (by omega)) dX6_ofPartner_16 ?_
  refine lv_astore_n (lv' := [(3, .ref (o + (115 + i))), (0, .ref o), (1, .int (nI i)), (2, .int (0 : Int32))]) hx hb dX6_ofPartner_17 rfl hl (by decide) rfl (fun ls hl => ?_)
  refine lv_iload_n hx hb dX6_ofPartner_18 rfl (lv_at hl 3 rfl) ?_
  refine lv_tableIn (tgt := 44) (off := 25) hx hb dX6_ofPartner_19 (by decide) (by decide) (by decide) (by decide) ?_
  refine lv_aload_n hx hb dX6_ofPartner_44 rfl (lv_at hl 0 rfl) ?_
  refine x_get (ref := RX3) (C := RX3) (T := TX3) (N := 4) (ci := 3) (v := .int (P (115 + i) 0)) hx hb hts iX3 hown hK.1 hP (by omega) (by omega) (((gw_out (by omega)).trans ((gw_out (by omega)).trans (hw_par (by omega))))) rfl 0 (by decide) (hts (.fieldLink RX6 48 "PoreField$Partner" "share" "I") (by decide +kernel)) (fun _ h9 => h9) rfl dX6_ofPartner_45 ?_
  exact W.iret (v := (P (115 + i) 0)) hx hb hr (fun tE ht hW => ⟨⟨(P (115 + i) 0), (), rfl, rfl, x_at ht (hP)⟩, hS.F ht⟩) hS.2.2 dX6_ofPartner_48

set_option maxRecDepth 100000 in
set_option maxHeartbeats 4000000 in
/-- ofPartner, 1 -/
theorem c_X6_ofPartner_1 (l : Launch) (D : va_G) (cy : Nat → ClassId) (lo n : Nat) (w0 : Nat → va_E) (o : Nat) (G T P : Mem) (ho1 : lo ≤ o) (ho2 : o + 118 ≤ lo + n) (i : Nat) (hi : i < 3)  : Met l yX6_ofPartner wsX6_ofPartner ({ frames := 1, cells := 0, slots := 0, locals := 22 }) (PcW D cy lo n (gw cy (gw cy (hw cy w0 o P) (o + 50) T) (o + 1) G) [.ref o, .int (nI i), .int (1 : Int32)]) (QiW D lo n (gw cy (gw cy (hw cy w0 o P) (o + 50) T) (o + 1) G) (P (115 + i) 1)) 0 0 (fun q : Nat => lo ≤ q) := by
  refine Met.ofW (cc := cX6_ofPartner) (maxL := 4) (ret := (some .int)) (by decide) rfl ?_
  intro p e s m args below meth c s₁ B hml hv
  obtain ⟨rfl, hP, hK, hS⟩ := x_entry hv
  have hx := B.exec
  have hb := B.bytes
  have hr := B.returns
  have hts := atoms_spec (ws := wsX6_ofPartner) B.pre
  have hown : s.vm.findClass RX6 = some m.cls := findClass_of_methodNamed B.named
  have hlocks := B.notSynchronized
  have iX3 : ∀ w ∈ u_ws RX3 TX3 4, w ∈ wsX6_ofPartner := by decide +kernel
  have iX6 : ∀ w ∈ u_ws RX6 TX6 11, w ∈ wsX6_ofPartner := by decide +kernel
  have hl := lv_entry ([.ref o, .int (nI i), .int (1 : Int32)]) (n := 4) (Nat.le_of_ble_eq_true rfl)
  rw [lg_entry_eq]
  generalize (lg_sl ([.ref o, .int (nI i), .int (1 : Int32)]) ++ List.replicate (4 - (lg_sl ([.ref o, .int (nI i), .int (1 : Int32)])).length) Slot.unset).toArray = ls at hl ⊢
  have hl : lv_has ls 4 [(0, .ref o), (1, .int (nI i)), (2, .int (1 : Int32))] := hl
  refine lv_iload_n hx hb dX6_ofPartner_0 rfl (lv_at hl 1 rfl) ?_
  refine lv_iconst (v := 3) hx hb dX6_ofPartner_1 (by decide) ?_
  refine x_callv (va_runS (As := [.int (nI i), .int (3 : Int32)]) (rest := []) ⟨hx, hb, hml, hown, hts⟩ (c_X6_needIndex l D cy lo n (gw cy (gw cy (hw cy w0 o P) (o + 50) T) (o + 1) G) i 3 (by omega) (by omega) (nI i) (3 : Int32) rfl rfl) (va_cwS 2 hts gX6_ofPartner_X6_needIndex rfl rfl rfl (by decide +kernel) ⟨Nat.le_of_ble_eq_true rfl, Nat.le_of_ble_eq_true rfl⟩) (preS hP hK) rfl rfl hl.1 rfl (lv_room (Nat.le_of_ble_eq_true rfl)) dX6_ofPartner_2 ⟨Nat.le_of_ble_eq_true rfl, Nat.le_of_ble_eq_true rfl⟩) hS (fun H locs hP hS => ?_)
  refine lv_iload_n hx hb dX6_ofPartner_5 rfl (lv_at hl 2 rfl) ?_
  refine lv_iconst (v := 0) hx hb dX6_ofPartner_6 (by decide) ?_
  refine lv_iconst (v := 3) hx hb dX6_ofPartner_7 (by decide) ?_
  refine x_callv (va_runS (As := [.int (1 : Int32), .int (0 : Int32), .int (3 : Int32)]) (rest := []) ⟨hx, hb, hml, hown, hts⟩ (c_X6_needWithin l D cy lo n (gw cy (gw cy (hw cy w0 o P) (o + 50) T) (o + 1) G) (1 : Int32) (0 : Int32) (3 : Int32) ((br_le (show (0 : Int32) = nI 0 from rfl) (show (1 : Int32) = nI 1 from rfl) (by omega) (by omega)).mpr (by omega)) ((br_le (show (1 : Int32) = nI 1 from rfl) (show (3 : Int32) = nI 3 from rfl) (by omega) (by omega)).mpr (by omega))) (va_cwS 3 hts gX6_ofPartner_X6_needWithin rfl rfl rfl (by decide +kernel) ⟨Nat.le_of_ble_eq_true rfl, Nat.le_of_ble_eq_true rfl⟩) (preS hP hK) rfl rfl hl.1 rfl (lv_room (Nat.le_of_ble_eq_true rfl)) dX6_ofPartner_8 ⟨Nat.le_of_ble_eq_true rfl, Nat.le_of_ble_eq_true rfl⟩) hS (fun H locs hP hS => ?_)
  refine lv_aload_n hx hb dX6_ofPartner_11 rfl (lv_at hl 0 rfl) ?_
  refine x_get (ref := RX6) (C := RX6) (T := TX6) (N := 11) (ci := 6) (v := .ref (o + 100)) hx hb hts iX6 hown hK.1 hP (by omega) (by omega) (((gw_out (by omega)).trans ((gw_out (by omega)).trans (hw_0)))) rfl 3 (by decide) (hts (.fieldLink RX6 27 "PoreField" "partners" "[LPoreField$Partner;") (by decide +kernel)) (fun _ h9 => h9) rfl dX6_ofPartner_12 ?_
  refine lv_iload_n hx hb dX6_ofPartner_15 rfl (lv_at hl 1 rfl) ?_
  refine x_aald (b := (o + (115 + i))) hx hb hK.1 hP (by omega) (by omega) 4 (((gw_out (by omega)).trans ((gw_out (by omega)).trans (hw_100)))) rfl (cl_of_nI (i := i) rfl (by omega)) rfl (vp_in_of_nI (i := i) rfl (by omega) (by omega)) dX6_ofPartner_16 ?_
  refine lv_astore_n (lv' := [(3, .ref (o + (115 + i))), (0, .ref o), (1, .int (nI i)), (2, .int (1 : Int32))]) hx hb dX6_ofPartner_17 rfl hl (by decide) rfl (fun ls hl => ?_)
  refine lv_iload_n hx hb dX6_ofPartner_18 rfl (lv_at hl 3 rfl) ?_
  refine lv_tableIn (tgt := 49) (off := 30) hx hb dX6_ofPartner_19 (by decide) (by decide) (by decide) (by decide) ?_
  refine lv_aload_n hx hb dX6_ofPartner_49 rfl (lv_at hl 0 rfl) ?_
  refine x_get (ref := RX3) (C := RX3) (T := TX3) (N := 4) (ci := 3) (v := .int (P (115 + i) 1)) hx hb hts iX3 hown hK.1 hP (by omega) (by omega) (((gw_out (by omega)).trans ((gw_out (by omega)).trans (hw_par (by omega))))) rfl 1 (by decide) (hts (.fieldLink RX6 217 "PoreField$Partner" "entitled" "I") (by decide +kernel)) (fun _ h9 => h9) rfl dX6_ofPartner_50 ?_
  exact W.iret (v := (P (115 + i) 1)) hx hb hr (fun tE ht hW => ⟨⟨(P (115 + i) 1), (), rfl, rfl, x_at ht (hP)⟩, hS.F ht⟩) hS.2.2 dX6_ofPartner_53

set_option maxRecDepth 100000 in
set_option maxHeartbeats 4000000 in
/-- ofPartner, 2 -/
theorem c_X6_ofPartner_2 (l : Launch) (D : va_G) (cy : Nat → ClassId) (lo n : Nat) (w0 : Nat → va_E) (o : Nat) (G T P : Mem) (ho1 : lo ≤ o) (ho2 : o + 118 ≤ lo + n) (i : Nat) (hi : i < 3)  : Met l yX6_ofPartner wsX6_ofPartner ({ frames := 1, cells := 0, slots := 0, locals := 22 }) (PcW D cy lo n (gw cy (gw cy (hw cy w0 o P) (o + 50) T) (o + 1) G) [.ref o, .int (nI i), .int (2 : Int32)]) (QiW D lo n (gw cy (gw cy (hw cy w0 o P) (o + 50) T) (o + 1) G) (P (115 + i) 2)) 0 0 (fun q : Nat => lo ≤ q) := by
  refine Met.ofW (cc := cX6_ofPartner) (maxL := 4) (ret := (some .int)) (by decide) rfl ?_
  intro p e s m args below meth c s₁ B hml hv
  obtain ⟨rfl, hP, hK, hS⟩ := x_entry hv
  have hx := B.exec
  have hb := B.bytes
  have hr := B.returns
  have hts := atoms_spec (ws := wsX6_ofPartner) B.pre
  have hown : s.vm.findClass RX6 = some m.cls := findClass_of_methodNamed B.named
  have hlocks := B.notSynchronized
  have iX3 : ∀ w ∈ u_ws RX3 TX3 4, w ∈ wsX6_ofPartner := by decide +kernel
  have iX6 : ∀ w ∈ u_ws RX6 TX6 11, w ∈ wsX6_ofPartner := by decide +kernel
  have hl := lv_entry ([.ref o, .int (nI i), .int (2 : Int32)]) (n := 4) (Nat.le_of_ble_eq_true rfl)
  rw [lg_entry_eq]
  generalize (lg_sl ([.ref o, .int (nI i), .int (2 : Int32)]) ++ List.replicate (4 - (lg_sl ([.ref o, .int (nI i), .int (2 : Int32)])).length) Slot.unset).toArray = ls at hl ⊢
  have hl : lv_has ls 4 [(0, .ref o), (1, .int (nI i)), (2, .int (2 : Int32))] := hl
  refine lv_iload_n hx hb dX6_ofPartner_0 rfl (lv_at hl 1 rfl) ?_
  refine lv_iconst (v := 3) hx hb dX6_ofPartner_1 (by decide) ?_
  refine x_callv (va_runS (As := [.int (nI i), .int (3 : Int32)]) (rest := []) ⟨hx, hb, hml, hown, hts⟩ (c_X6_needIndex l D cy lo n (gw cy (gw cy (hw cy w0 o P) (o + 50) T) (o + 1) G) i 3 (by omega) (by omega) (nI i) (3 : Int32) rfl rfl) (va_cwS 2 hts gX6_ofPartner_X6_needIndex rfl rfl rfl (by decide +kernel) ⟨Nat.le_of_ble_eq_true rfl, Nat.le_of_ble_eq_true rfl⟩) (preS hP hK) rfl rfl hl.1 rfl (lv_room (Nat.le_of_ble_eq_true rfl)) dX6_ofPartner_2 ⟨Nat.le_of_ble_eq_true rfl, Nat.le_of_ble_eq_true rfl⟩) hS (fun H locs hP hS => ?_)
  refine lv_iload_n hx hb dX6_ofPartner_5 rfl (lv_at hl 2 rfl) ?_
  refine lv_iconst (v := 0) hx hb dX6_ofPartner_6 (by decide) ?_
  refine lv_iconst (v := 3) hx hb dX6_ofPartner_7 (by decide) ?_
  refine x_callv (va_runS (As := [.int (2 : Int32), .int (0 : Int32), .int (3 : Int32)]) (rest := []) ⟨hx, hb, hml, hown, hts⟩ (c_X6_needWithin l D cy lo n (gw cy (gw cy (hw cy w0 o P) (o + 50) T) (o + 1) G) (2 : Int32) (0 : Int32) (3 : Int32) ((br_le (show (0 : Int32) = nI 0 from rfl) (show (2 : Int32) = nI 2 from rfl) (by omega) (by omega)).mpr (by omega)) ((br_le (show (2 : Int32) = nI 2 from rfl) (show (3 : Int32) = nI 3 from rfl) (by omega) (by omega)).mpr (by omega))) (va_cwS 3 hts gX6_ofPartner_X6_needWithin rfl rfl rfl (by decide +kernel) ⟨Nat.le_of_ble_eq_true rfl, Nat.le_of_ble_eq_true rfl⟩) (preS hP hK) rfl rfl hl.1 rfl (lv_room (Nat.le_of_ble_eq_true rfl)) dX6_ofPartner_8 ⟨Nat.le_of_ble_eq_true rfl, Nat.le_of_ble_eq_true rfl⟩) hS (fun H locs hP hS => ?_)
  refine lv_aload_n hx hb dX6_ofPartner_11 rfl (lv_at hl 0 rfl) ?_
  refine x_get (ref := RX6) (C := RX6) (T := TX6) (N := 11) (ci := 6) (v := .ref (o + 100)) hx hb hts iX6 hown hK.1 hP (by omega) (by omega) (((gw_out (by omega)).trans ((gw_out (by omega)).trans (hw_0)))) rfl 3 (by decide) (hts (.fieldLink RX6 27 "PoreField" "partners" "[LPoreField$Partner;") (by decide +kernel)) (fun _ h9 => h9) rfl dX6_ofPartner_12 ?_
  refine lv_iload_n hx hb dX6_ofPartner_15 rfl (lv_at hl 1 rfl) ?_
  refine x_aald (b := (o + (115 + i))) hx hb hK.1 hP (by omega) (by omega) 4 (((gw_out (by omega)).trans ((gw_out (by omega)).trans (hw_100)))) rfl (cl_of_nI (i := i) rfl (by omega)) rfl (vp_in_of_nI (i := i) rfl (by omega) (by omega)) dX6_ofPartner_16 ?_
  refine lv_astore_n (lv' := [(3, .ref (o + (115 + i))), (0, .ref o), (1, .int (nI i)), (2, .int (2 : Int32))]) hx hb dX6_ofPartner_17 rfl hl (by decide) rfl (fun ls hl => ?_)
  refine lv_iload_n hx hb dX6_ofPartner_18 rfl (lv_at hl 3 rfl) ?_
  refine lv_tableIn (tgt := 54) (off := 35) hx hb dX6_ofPartner_19 (by decide) (by decide) (by decide) (by decide) ?_
  refine lv_aload_n hx hb dX6_ofPartner_54 rfl (lv_at hl 0 rfl) ?_
  refine x_get (ref := RX3) (C := RX3) (T := TX3) (N := 4) (ci := 3) (v := .int (P (115 + i) 2)) hx hb hts iX3 hown hK.1 hP (by omega) (by omega) (((gw_out (by omega)).trans ((gw_out (by omega)).trans (hw_par (by omega))))) rfl 2 (by decide) (hts (.fieldLink RX6 173 "PoreField$Partner" "lifted" "I") (by decide +kernel)) (fun _ h9 => h9) rfl dX6_ofPartner_55 ?_
  exact W.iret (v := (P (115 + i) 2)) hx hb hr (fun tE ht hW => ⟨⟨(P (115 + i) 2), (), rfl, rfl, x_at ht (hP)⟩, hS.F ht⟩) hS.2.2 dX6_ofPartner_58

set_option maxRecDepth 100000 in
set_option maxHeartbeats 4000000 in
/-- ofPartner, 3 -/
theorem c_X6_ofPartner_3 (l : Launch) (D : va_G) (cy : Nat → ClassId) (lo n : Nat) (w0 : Nat → va_E) (o : Nat) (G T P : Mem) (ho1 : lo ≤ o) (ho2 : o + 118 ≤ lo + n) (i : Nat) (hi : i < 3)  : Met l yX6_ofPartner wsX6_ofPartner ({ frames := 1, cells := 0, slots := 0, locals := 22 }) (PcW D cy lo n (gw cy (gw cy (hw cy w0 o P) (o + 50) T) (o + 1) G) [.ref o, .int (nI i), .int (3 : Int32)]) (QiW D lo n (gw cy (gw cy (hw cy w0 o P) (o + 50) T) (o + 1) G) (P (115 + i) 3)) 0 0 (fun q : Nat => lo ≤ q) := by
  refine Met.ofW (cc := cX6_ofPartner) (maxL := 4) (ret := (some .int)) (by decide) rfl ?_
  intro p e s m args below meth c s₁ B hml hv
  obtain ⟨rfl, hP, hK, hS⟩ := x_entry hv
  have hx := B.exec
  have hb := B.bytes
  have hr := B.returns
  have hts := atoms_spec (ws := wsX6_ofPartner) B.pre
  have hown : s.vm.findClass RX6 = some m.cls := findClass_of_methodNamed B.named
  have hlocks := B.notSynchronized
  have iX3 : ∀ w ∈ u_ws RX3 TX3 4, w ∈ wsX6_ofPartner := by decide +kernel
  have iX6 : ∀ w ∈ u_ws RX6 TX6 11, w ∈ wsX6_ofPartner := by decide +kernel
  have hl := lv_entry ([.ref o, .int (nI i), .int (3 : Int32)]) (n := 4) (Nat.le_of_ble_eq_true rfl)
  rw [lg_entry_eq]
  generalize (lg_sl ([.ref o, .int (nI i), .int (3 : Int32)]) ++ List.replicate (4 - (lg_sl ([.ref o, .int (nI i), .int (3 : Int32)])).length) Slot.unset).toArray = ls at hl ⊢
  have hl : lv_has ls 4 [(0, .ref o), (1, .int (nI i)), (2, .int (3 : Int32))] := hl
  refine lv_iload_n hx hb dX6_ofPartner_0 rfl (lv_at hl 1 rfl) ?_
  refine lv_iconst (v := 3) hx hb dX6_ofPartner_1 (by decide) ?_
  refine x_callv (va_runS (As := [.int (nI i), .int (3 : Int32)]) (rest := []) ⟨hx, hb, hml, hown, hts⟩ (c_X6_needIndex l D cy lo n (gw cy (gw cy (hw cy w0 o P) (o + 50) T) (o + 1) G) i 3 (by omega) (by omega) (nI i) (3 : Int32) rfl rfl) (va_cwS 2 hts gX6_ofPartner_X6_needIndex rfl rfl rfl (by decide +kernel) ⟨Nat.le_of_ble_eq_true rfl, Nat.le_of_ble_eq_true rfl⟩) (preS hP hK) rfl rfl hl.1 rfl (lv_room (Nat.le_of_ble_eq_true rfl)) dX6_ofPartner_2 ⟨Nat.le_of_ble_eq_true rfl, Nat.le_of_ble_eq_true rfl⟩) hS (fun H locs hP hS => ?_)
  refine lv_iload_n hx hb dX6_ofPartner_5 rfl (lv_at hl 2 rfl) ?_
  refine lv_iconst (v := 0) hx hb dX6_ofPartner_6 (by decide) ?_
  refine lv_iconst (v := 3) hx hb dX6_ofPartner_7 (by decide) ?_
  refine x_callv (va_runS (As := [.int (3 : Int32), .int (0 : Int32), .int (3 : Int32)]) (rest := []) ⟨hx, hb, hml, hown, hts⟩ (c_X6_needWithin l D cy lo n (gw cy (gw cy (hw cy w0 o P) (o + 50) T) (o + 1) G) (3 : Int32) (0 : Int32) (3 : Int32) ((br_le (show (0 : Int32) = nI 0 from rfl) (show (3 : Int32) = nI 3 from rfl) (by omega) (by omega)).mpr (by omega)) ((br_le (show (3 : Int32) = nI 3 from rfl) (show (3 : Int32) = nI 3 from rfl) (by omega) (by omega)).mpr (by omega))) (va_cwS 3 hts gX6_ofPartner_X6_needWithin rfl rfl rfl (by decide +kernel) ⟨Nat.le_of_ble_eq_true rfl, Nat.le_of_ble_eq_true rfl⟩) (preS hP hK) rfl rfl hl.1 rfl (lv_room (Nat.le_of_ble_eq_true rfl)) dX6_ofPartner_8 ⟨Nat.le_of_ble_eq_true rfl, Nat.le_of_ble_eq_true rfl⟩) hS (fun H locs hP hS => ?_)
  refine lv_aload_n hx hb dX6_ofPartner_11 rfl (lv_at hl 0 rfl) ?_
  refine x_get (ref := RX6) (C := RX6) (T := TX6) (N := 11) (ci := 6) (v := .ref (o + 100)) hx hb hts iX6 hown hK.1 hP (by omega) (by omega) (((gw_out (by omega)).trans ((gw_out (by omega)).trans (hw_0)))) rfl 3 (by decide) (hts (.fieldLink RX6 27 "PoreField" "partners" "[LPoreField$Partner;") (by decide +kernel)) (fun _ h9 => h9) rfl dX6_ofPartner_12 ?_
  refine lv_iload_n hx hb dX6_ofPartner_15 rfl (lv_at hl 1 rfl) ?_
  refine x_aald (b := (o + (115 + i))) hx hb hK.1 hP (by omega) (by omega) 4 (((gw_out (by omega)).trans ((gw_out (by omega)).trans (hw_100)))) rfl (cl_of_nI (i := i) rfl (by omega)) rfl (vp_in_of_nI (i := i) rfl (by omega) (by omega)) dX6_ofPartner_16 ?_
  refine lv_astore_n (lv' := [(3, .ref (o + (115 + i))), (0, .ref o), (1, .int (nI i)), (2, .int (3 : Int32))]) hx hb dX6_ofPartner_17 rfl hl (by decide) rfl (fun ls hl => ?_)
  refine lv_iload_n hx hb dX6_ofPartner_18 rfl (lv_at hl 3 rfl) ?_
  refine lv_tableOut (tgt := 59) hx hb dX6_ofPartner_19 (by decide) (by decide) ?_
  refine lv_aload_n hx hb dX6_ofPartner_59 rfl (lv_at hl 0 rfl) ?_
  refine x_get (ref := RX3) (C := RX3) (T := TX3) (N := 4) (ci := 3) (v := .int (P (115 + i) 3)) hx hb hts iX3 hown hK.1 hP (by omega) (by omega) (((gw_out (by omega)).trans ((gw_out (by omega)).trans (hw_par (by omega))))) rfl 3 (by decide) (hts (.fieldLink RX6 176 "PoreField$Partner" "money" "I") (by decide +kernel)) (fun _ h9 => h9) rfl dX6_ofPartner_60 ?_
  exact W.iret (v := (P (115 + i) 3)) hx hb hr (fun tE ht hW => ⟨⟨(P (115 + i) 3), (), rfl, rfl, x_at ht (hP)⟩, hS.F ht⟩) hS.2.2 dX6_ofPartner_63

set_option maxRecDepth 100000 in
set_option maxHeartbeats 4000000 in
/-- ofPartner -/
theorem c_X6_ofPartner (l : Launch) (D : va_G) (cy : Nat → ClassId) (lo n : Nat) (w0 : Nat → va_E) (o : Nat) (G T P : Mem) (ho1 : lo ≤ o) (ho2 : o + 118 ≤ lo + n) (i : Nat) (hi : i < 3) (k : Nat) (hk : k < 4) : Met l yX6_ofPartner wsX6_ofPartner ({ frames := 1, cells := 0, slots := 0, locals := 22 }) (PcW D cy lo n (gw cy (gw cy (hw cy w0 o P) (o + 50) T) (o + 1) G) [.ref o, .int (nI i), .int (nI k)]) (QiW D lo n (gw cy (gw cy (hw cy w0 o P) (o + 50) T) (o + 1) G) (P (115 + i) k)) 0 0 (fun q : Nat => lo ≤ q) := by
  match k, hk with
  | 0, _ => exact c_X6_ofPartner_0 l D cy lo n w0 o G T P ho1 ho2 i hi
  | 1, _ => exact c_X6_ofPartner_1 l D cy lo n w0 o G T P ho1 ho2 i hi
  | 2, _ => exact c_X6_ofPartner_2 l D cy lo n w0 o G T P ho1 ho2 i hi
  | 3, _ => exact c_X6_ofPartner_3 l D cy lo n w0 o G T P ho1 ho2 i hi
  | k + 4, h => exact absurd h (by omega)

set_option maxRecDepth 100000 in
set_option maxHeartbeats 4000000 in
/-- booked, 0 -/
theorem c_X6_booked_0 (l : Launch) (D : va_G) (cy : Nat → ClassId) (lo n : Nat) (w0 : Nat → va_E) (o : Nat) (G T P : Mem) (ho1 : lo ≤ o) (ho2 : o + 118 ≤ lo + n)  : Met l yX6_booked wsX6_booked ({ frames := 1, cells := 0, slots := 0, locals := 22 }) (PcW D cy lo n (gw cy (gw cy (hw cy w0 o P) (o + 50) T) (o + 1) G) [.ref o, .int (0 : Int32)]) (QiW D lo n (gw cy (gw cy (hw cy w0 o P) (o + 50) T) (o + 1) G) (m_booked P 0)) 0 0 (fun q : Nat => lo ≤ q) := by
  refine Met.ofW (cc := cX6_booked) (maxL := 2) (ret := (some .int)) (by decide) rfl ?_
  intro p e s m args below meth c s₁ B hml hv
  obtain ⟨rfl, hP, hK, hS⟩ := x_entry hv
  have hx := B.exec
  have hb := B.bytes
  have hr := B.returns
  have hts := atoms_spec (ws := wsX6_booked) B.pre
  have hown : s.vm.findClass RX6 = some m.cls := findClass_of_methodNamed B.named
  have hlocks := B.notSynchronized
  have iX0 : ∀ w ∈ u_ws RX0 TX0 8, w ∈ wsX6_booked := by decide +kernel
  have iX6 : ∀ w ∈ u_ws RX6 TX6 11, w ∈ wsX6_booked := by decide +kernel
  have hl := lv_entry ([.ref o, .int (0 : Int32)]) (n := 2) (Nat.le_of_ble_eq_true rfl)
  rw [lg_entry_eq]
  generalize (lg_sl ([.ref o, .int (0 : Int32)]) ++ List.replicate (2 - (lg_sl ([.ref o, .int (0 : Int32)])).length) Slot.unset).toArray = ls at hl ⊢
  have hl : lv_has ls 2 [(0, .ref o), (1, .int (0 : Int32))] := hl
  refine lv_iload_n hx hb dX6_booked_0 rfl (lv_at hl 1 rfl) ?_
  refine lv_iconst (v := 0) hx hb dX6_booked_1 (by decide) ?_
  refine lv_iconst (v := 4) hx hb dX6_booked_2 (by decide) ?_
  refine x_callv (va_runS (As := [.int (0 : Int32), .int (0 : Int32), .int (4 : Int32)]) (rest := []) ⟨hx, hb, hml, hown, hts⟩ (c_X6_needWithin l D cy lo n (gw cy (gw cy (hw cy w0 o P) (o + 50) T) (o + 1) G) (0 : Int32) (0 : Int32) (4 : Int32) ((br_le (show (0 : Int32) = nI 0 from rfl) (show (0 : Int32) = nI 0 from rfl) (by omega) (by omega)).mpr (by omega)) ((br_le (show (0 : Int32) = nI 0 from rfl) (show (4 : Int32) = nI 4 from rfl) (by omega) (by omega)).mpr (by omega))) (va_cwS 3 hts gX6_booked_X6_needWithin rfl rfl rfl (by decide +kernel) ⟨Nat.le_of_ble_eq_true rfl, Nat.le_of_ble_eq_true rfl⟩) (preS hP hK) rfl rfl hl.1 rfl (lv_room (Nat.le_of_ble_eq_true rfl)) dX6_booked_3 ⟨Nat.le_of_ble_eq_true rfl, Nat.le_of_ble_eq_true rfl⟩) hS (fun H locs hP hS => ?_)
  refine lv_iload_n hx hb dX6_booked_6 rfl (lv_at hl 1 rfl) ?_
  refine lv_tableIn (tgt := 36) (off := 29) hx hb dX6_booked_7 (by decide) (by decide) (by decide) (by decide) ?_
  refine lv_aload_n hx hb dX6_booked_36 rfl (lv_at hl 0 rfl) ?_
  refine x_get (ref := RX6) (C := RX6) (T := TX6) (N := 11) (ci := 6) (v := .ref (o + 101)) hx hb hts iX6 hown hK.1 hP (by omega) (by omega) (((gw_out (by omega)).trans ((gw_out (by omega)).trans (hw_0)))) rfl 4 (by decide) (hts (.fieldLink RX6 34 "PoreField" "booking" "LPoreField$Booking;") (by decide +kernel)) (fun _ h9 => h9) rfl dX6_booked_37 ?_
  refine x_get (ref := RX0) (C := RX0) (T := TX0) (N := 8) (ci := 0) (v := .int (P 101 0)) hx hb hts iX0 hown hK.1 hP (by omega) (by omega) (((gw_out (by omega)).trans ((gw_out (by omega)).trans (hw_101)))) rfl 0 (by decide) (hts (.fieldLink RX6 190 "PoreField$Booking" "reserves" "I") (by decide +kernel)) (fun _ h9 => h9) rfl dX6_booked_40 ?_
  exact W.iret (v := (P 101 0)) hx hb hr (fun tE ht hW => ⟨⟨(P 101 0), (), rfl, rfl, x_at ht (hP)⟩, hS.F ht⟩) hS.2.2 dX6_booked_43

set_option maxRecDepth 100000 in
set_option maxHeartbeats 4000000 in
/-- booked, 1 -/
theorem c_X6_booked_1 (l : Launch) (D : va_G) (cy : Nat → ClassId) (lo n : Nat) (w0 : Nat → va_E) (o : Nat) (G T P : Mem) (ho1 : lo ≤ o) (ho2 : o + 118 ≤ lo + n)  : Met l yX6_booked wsX6_booked ({ frames := 1, cells := 0, slots := 0, locals := 22 }) (PcW D cy lo n (gw cy (gw cy (hw cy w0 o P) (o + 50) T) (o + 1) G) [.ref o, .int (1 : Int32)]) (QiW D lo n (gw cy (gw cy (hw cy w0 o P) (o + 50) T) (o + 1) G) (m_booked P 1)) 0 0 (fun q : Nat => lo ≤ q) := by
  refine Met.ofW (cc := cX6_booked) (maxL := 2) (ret := (some .int)) (by decide) rfl ?_
  intro p e s m args below meth c s₁ B hml hv
  obtain ⟨rfl, hP, hK, hS⟩ := x_entry hv
  have hx := B.exec
  have hb := B.bytes
  have hr := B.returns
  have hts := atoms_spec (ws := wsX6_booked) B.pre
  have hown : s.vm.findClass RX6 = some m.cls := findClass_of_methodNamed B.named
  have hlocks := B.notSynchronized
  have iX0 : ∀ w ∈ u_ws RX0 TX0 8, w ∈ wsX6_booked := by decide +kernel
  have iX6 : ∀ w ∈ u_ws RX6 TX6 11, w ∈ wsX6_booked := by decide +kernel
  have hl := lv_entry ([.ref o, .int (1 : Int32)]) (n := 2) (Nat.le_of_ble_eq_true rfl)
  rw [lg_entry_eq]
  generalize (lg_sl ([.ref o, .int (1 : Int32)]) ++ List.replicate (2 - (lg_sl ([.ref o, .int (1 : Int32)])).length) Slot.unset).toArray = ls at hl ⊢
  have hl : lv_has ls 2 [(0, .ref o), (1, .int (1 : Int32))] := hl
  refine lv_iload_n hx hb dX6_booked_0 rfl (lv_at hl 1 rfl) ?_
  refine lv_iconst (v := 0) hx hb dX6_booked_1 (by decide) ?_
  refine lv_iconst (v := 4) hx hb dX6_booked_2 (by decide) ?_
  refine x_callv (va_runS (As := [.int (1 : Int32), .int (0 : Int32), .int (4 : Int32)]) (rest := []) ⟨hx, hb, hml, hown, hts⟩ (c_X6_needWithin l D cy lo n (gw cy (gw cy (hw cy w0 o P) (o + 50) T) (o + 1) G) (1 : Int32) (0 : Int32) (4 : Int32) ((br_le (show (0 : Int32) = nI 0 from rfl) (show (1 : Int32) = nI 1 from rfl) (by omega) (by omega)).mpr (by omega)) ((br_le (show (1 : Int32) = nI 1 from rfl) (show (4 : Int32) = nI 4 from rfl) (by omega) (by omega)).mpr (by omega))) (va_cwS 3 hts gX6_booked_X6_needWithin rfl rfl rfl (by decide +kernel) ⟨Nat.le_of_ble_eq_true rfl, Nat.le_of_ble_eq_true rfl⟩) (preS hP hK) rfl rfl hl.1 rfl (lv_room (Nat.le_of_ble_eq_true rfl)) dX6_booked_3 ⟨Nat.le_of_ble_eq_true rfl, Nat.le_of_ble_eq_true rfl⟩) hS (fun H locs hP hS => ?_)
  refine lv_iload_n hx hb dX6_booked_6 rfl (lv_at hl 1 rfl) ?_
  refine lv_tableIn (tgt := 44) (off := 37) hx hb dX6_booked_7 (by decide) (by decide) (by decide) (by decide) ?_
  refine lv_aload_n hx hb dX6_booked_44 rfl (lv_at hl 0 rfl) ?_
  refine x_get (ref := RX6) (C := RX6) (T := TX6) (N := 11) (ci := 6) (v := .ref (o + 101)) hx hb hts iX6 hown hK.1 hP (by omega) (by omega) (((gw_out (by omega)).trans ((gw_out (by omega)).trans (hw_0)))) rfl 4 (by decide) (hts (.fieldLink RX6 34 "PoreField" "booking" "LPoreField$Booking;") (by decide +kernel)) (fun _ h9 => h9) rfl dX6_booked_45 ?_
  refine x_get (ref := RX0) (C := RX0) (T := TX0) (N := 8) (ci := 0) (v := .int (P 101 1)) hx hb hts iX0 hown hK.1 hP (by omega) (by omega) (((gw_out (by omega)).trans ((gw_out (by omega)).trans (hw_101)))) rfl 1 (by decide) (hts (.fieldLink RX6 196 "PoreField$Booking" "produced" "I") (by decide +kernel)) (fun _ h9 => h9) rfl dX6_booked_48 ?_
  exact W.iret (v := (P 101 1)) hx hb hr (fun tE ht hW => ⟨⟨(P 101 1), (), rfl, rfl, x_at ht (hP)⟩, hS.F ht⟩) hS.2.2 dX6_booked_51

set_option maxRecDepth 100000 in
set_option maxHeartbeats 4000000 in
/-- booked, 2 -/
theorem c_X6_booked_2 (l : Launch) (D : va_G) (cy : Nat → ClassId) (lo n : Nat) (w0 : Nat → va_E) (o : Nat) (G T P : Mem) (ho1 : lo ≤ o) (ho2 : o + 118 ≤ lo + n)  : Met l yX6_booked wsX6_booked ({ frames := 1, cells := 0, slots := 0, locals := 22 }) (PcW D cy lo n (gw cy (gw cy (hw cy w0 o P) (o + 50) T) (o + 1) G) [.ref o, .int (2 : Int32)]) (QiW D lo n (gw cy (gw cy (hw cy w0 o P) (o + 50) T) (o + 1) G) (m_booked P 2)) 0 0 (fun q : Nat => lo ≤ q) := by
  refine Met.ofW (cc := cX6_booked) (maxL := 2) (ret := (some .int)) (by decide) rfl ?_
  intro p e s m args below meth c s₁ B hml hv
  obtain ⟨rfl, hP, hK, hS⟩ := x_entry hv
  have hx := B.exec
  have hb := B.bytes
  have hr := B.returns
  have hts := atoms_spec (ws := wsX6_booked) B.pre
  have hown : s.vm.findClass RX6 = some m.cls := findClass_of_methodNamed B.named
  have hlocks := B.notSynchronized
  have iX0 : ∀ w ∈ u_ws RX0 TX0 8, w ∈ wsX6_booked := by decide +kernel
  have iX6 : ∀ w ∈ u_ws RX6 TX6 11, w ∈ wsX6_booked := by decide +kernel
  have hl := lv_entry ([.ref o, .int (2 : Int32)]) (n := 2) (Nat.le_of_ble_eq_true rfl)
  rw [lg_entry_eq]
  generalize (lg_sl ([.ref o, .int (2 : Int32)]) ++ List.replicate (2 - (lg_sl ([.ref o, .int (2 : Int32)])).length) Slot.unset).toArray = ls at hl ⊢
  have hl : lv_has ls 2 [(0, .ref o), (1, .int (2 : Int32))] := hl
  refine lv_iload_n hx hb dX6_booked_0 rfl (lv_at hl 1 rfl) ?_
  refine lv_iconst (v := 0) hx hb dX6_booked_1 (by decide) ?_
  refine lv_iconst (v := 4) hx hb dX6_booked_2 (by decide) ?_
  refine x_callv (va_runS (As := [.int (2 : Int32), .int (0 : Int32), .int (4 : Int32)]) (rest := []) ⟨hx, hb, hml, hown, hts⟩ (c_X6_needWithin l D cy lo n (gw cy (gw cy (hw cy w0 o P) (o + 50) T) (o + 1) G) (2 : Int32) (0 : Int32) (4 : Int32) ((br_le (show (0 : Int32) = nI 0 from rfl) (show (2 : Int32) = nI 2 from rfl) (by omega) (by omega)).mpr (by omega)) ((br_le (show (2 : Int32) = nI 2 from rfl) (show (4 : Int32) = nI 4 from rfl) (by omega) (by omega)).mpr (by omega))) (va_cwS 3 hts gX6_booked_X6_needWithin rfl rfl rfl (by decide +kernel) ⟨Nat.le_of_ble_eq_true rfl, Nat.le_of_ble_eq_true rfl⟩) (preS hP hK) rfl rfl hl.1 rfl (lv_room (Nat.le_of_ble_eq_true rfl)) dX6_booked_3 ⟨Nat.le_of_ble_eq_true rfl, Nat.le_of_ble_eq_true rfl⟩) hS (fun H locs hP hS => ?_)
  refine lv_iload_n hx hb dX6_booked_6 rfl (lv_at hl 1 rfl) ?_
  refine lv_tableIn (tgt := 52) (off := 45) hx hb dX6_booked_7 (by decide) (by decide) (by decide) (by decide) ?_
  refine lv_aload_n hx hb dX6_booked_52 rfl (lv_at hl 0 rfl) ?_
  refine x_get (ref := RX6) (C := RX6) (T := TX6) (N := 11) (ci := 6) (v := .ref (o + 101)) hx hb hts iX6 hown hK.1 hP (by omega) (by omega) (((gw_out (by omega)).trans ((gw_out (by omega)).trans (hw_0)))) rfl 4 (by decide) (hts (.fieldLink RX6 34 "PoreField" "booking" "LPoreField$Booking;") (by decide +kernel)) (fun _ h9 => h9) rfl dX6_booked_53 ?_
  refine x_get (ref := RX0) (C := RX0) (T := TX0) (N := 8) (ci := 0) (v := .int (P 101 2)) hx hb hts iX0 hown hK.1 hP (by omega) (by omega) (((gw_out (by omega)).trans ((gw_out (by omega)).trans (hw_101)))) rfl 2 (by decide) (hts (.fieldLink RX6 199 "PoreField$Booking" "fresh" "I") (by decide +kernel)) (fun _ h9 => h9) rfl dX6_booked_56 ?_
  exact W.iret (v := (P 101 2)) hx hb hr (fun tE ht hW => ⟨⟨(P 101 2), (), rfl, rfl, x_at ht (hP)⟩, hS.F ht⟩) hS.2.2 dX6_booked_59

set_option maxRecDepth 100000 in
set_option maxHeartbeats 4000000 in
/-- booked, 3 -/
theorem c_X6_booked_3 (l : Launch) (D : va_G) (cy : Nat → ClassId) (lo n : Nat) (w0 : Nat → va_E) (o : Nat) (G T P : Mem) (ho1 : lo ≤ o) (ho2 : o + 118 ≤ lo + n)  : Met l yX6_booked wsX6_booked ({ frames := 1, cells := 0, slots := 0, locals := 22 }) (PcW D cy lo n (gw cy (gw cy (hw cy w0 o P) (o + 50) T) (o + 1) G) [.ref o, .int (3 : Int32)]) (QiW D lo n (gw cy (gw cy (hw cy w0 o P) (o + 50) T) (o + 1) G) (m_booked P 3)) 0 0 (fun q : Nat => lo ≤ q) := by
  refine Met.ofW (cc := cX6_booked) (maxL := 2) (ret := (some .int)) (by decide) rfl ?_
  intro p e s m args below meth c s₁ B hml hv
  obtain ⟨rfl, hP, hK, hS⟩ := x_entry hv
  have hx := B.exec
  have hb := B.bytes
  have hr := B.returns
  have hts := atoms_spec (ws := wsX6_booked) B.pre
  have hown : s.vm.findClass RX6 = some m.cls := findClass_of_methodNamed B.named
  have hlocks := B.notSynchronized
  have iX0 : ∀ w ∈ u_ws RX0 TX0 8, w ∈ wsX6_booked := by decide +kernel
  have iX6 : ∀ w ∈ u_ws RX6 TX6 11, w ∈ wsX6_booked := by decide +kernel
  have hl := lv_entry ([.ref o, .int (3 : Int32)]) (n := 2) (Nat.le_of_ble_eq_true rfl)
  rw [lg_entry_eq]
  generalize (lg_sl ([.ref o, .int (3 : Int32)]) ++ List.replicate (2 - (lg_sl ([.ref o, .int (3 : Int32)])).length) Slot.unset).toArray = ls at hl ⊢
  have hl : lv_has ls 2 [(0, .ref o), (1, .int (3 : Int32))] := hl
  refine lv_iload_n hx hb dX6_booked_0 rfl (lv_at hl 1 rfl) ?_
  refine lv_iconst (v := 0) hx hb dX6_booked_1 (by decide) ?_
  refine lv_iconst (v := 4) hx hb dX6_booked_2 (by decide) ?_
  refine x_callv (va_runS (As := [.int (3 : Int32), .int (0 : Int32), .int (4 : Int32)]) (rest := []) ⟨hx, hb, hml, hown, hts⟩ (c_X6_needWithin l D cy lo n (gw cy (gw cy (hw cy w0 o P) (o + 50) T) (o + 1) G) (3 : Int32) (0 : Int32) (4 : Int32) ((br_le (show (0 : Int32) = nI 0 from rfl) (show (3 : Int32) = nI 3 from rfl) (by omega) (by omega)).mpr (by omega)) ((br_le (show (3 : Int32) = nI 3 from rfl) (show (4 : Int32) = nI 4 from rfl) (by omega) (by omega)).mpr (by omega))) (va_cwS 3 hts gX6_booked_X6_needWithin rfl rfl rfl (by decide +kernel) ⟨Nat.le_of_ble_eq_true rfl, Nat.le_of_ble_eq_true rfl⟩) (preS hP hK) rfl rfl hl.1 rfl (lv_room (Nat.le_of_ble_eq_true rfl)) dX6_booked_3 ⟨Nat.le_of_ble_eq_true rfl, Nat.le_of_ble_eq_true rfl⟩) hS (fun H locs hP hS => ?_)
  refine lv_iload_n hx hb dX6_booked_6 rfl (lv_at hl 1 rfl) ?_
  refine lv_tableIn (tgt := 60) (off := 53) hx hb dX6_booked_7 (by decide) (by decide) (by decide) (by decide) ?_
  refine lv_aload_n hx hb dX6_booked_60 rfl (lv_at hl 0 rfl) ?_
  refine x_get (ref := RX6) (C := RX6) (T := TX6) (N := 11) (ci := 6) (v := .ref (o + 101)) hx hb hts iX6 hown hK.1 hP (by omega) (by omega) (((gw_out (by omega)).trans ((gw_out (by omega)).trans (hw_0)))) rfl 4 (by decide) (hts (.fieldLink RX6 34 "PoreField" "booking" "LPoreField$Booking;") (by decide +kernel)) (fun _ h9 => h9) rfl dX6_booked_61 ?_
  refine x_get (ref := RX0) (C := RX0) (T := TX0) (N := 8) (ci := 0) (v := .int (P 101 3)) hx hb hts iX0 hown hK.1 hP (by omega) (by omega) (((gw_out (by omega)).trans ((gw_out (by omega)).trans (hw_101)))) rfl 3 (by decide) (hts (.fieldLink RX6 193 "PoreField$Booking" "revised" "I") (by decide +kernel)) (fun _ h9 => h9) rfl dX6_booked_64 ?_
  exact W.iret (v := (P 101 3)) hx hb hr (fun tE ht hW => ⟨⟨(P 101 3), (), rfl, rfl, x_at ht (hP)⟩, hS.F ht⟩) hS.2.2 dX6_booked_67

set_option maxRecDepth 100000 in
set_option maxHeartbeats 4000000 in
/-- booked, 4 -/
theorem c_X6_booked_4 (l : Launch) (D : va_G) (cy : Nat → ClassId) (lo n : Nat) (w0 : Nat → va_E) (o : Nat) (G T P : Mem) (ho1 : lo ≤ o) (ho2 : o + 118 ≤ lo + n)  : Met l yX6_booked wsX6_booked ({ frames := 1, cells := 0, slots := 0, locals := 22 }) (PcW D cy lo n (gw cy (gw cy (hw cy w0 o P) (o + 50) T) (o + 1) G) [.ref o, .int (4 : Int32)]) (QiW D lo n (gw cy (gw cy (hw cy w0 o P) (o + 50) T) (o + 1) G) (m_booked P 4)) 0 0 (fun q : Nat => lo ≤ q) := by
  refine Met.ofW (cc := cX6_booked) (maxL := 2) (ret := (some .int)) (by decide) rfl ?_
  intro p e s m args below meth c s₁ B hml hv
  obtain ⟨rfl, hP, hK, hS⟩ := x_entry hv
  have hx := B.exec
  have hb := B.bytes
  have hr := B.returns
  have hts := atoms_spec (ws := wsX6_booked) B.pre
  have hown : s.vm.findClass RX6 = some m.cls := findClass_of_methodNamed B.named
  have hlocks := B.notSynchronized
  have iX0 : ∀ w ∈ u_ws RX0 TX0 8, w ∈ wsX6_booked := by decide +kernel
  have iX6 : ∀ w ∈ u_ws RX6 TX6 11, w ∈ wsX6_booked := by decide +kernel
  have hl := lv_entry ([.ref o, .int (4 : Int32)]) (n := 2) (Nat.le_of_ble_eq_true rfl)
  rw [lg_entry_eq]
  generalize (lg_sl ([.ref o, .int (4 : Int32)]) ++ List.replicate (2 - (lg_sl ([.ref o, .int (4 : Int32)])).length) Slot.unset).toArray = ls at hl ⊢
  have hl : lv_has ls 2 [(0, .ref o), (1, .int (4 : Int32))] := hl
  refine lv_iload_n hx hb dX6_booked_0 rfl (lv_at hl 1 rfl) ?_
  refine lv_iconst (v := 0) hx hb dX6_booked_1 (by decide) ?_
  refine lv_iconst (v := 4) hx hb dX6_booked_2 (by decide) ?_
  refine x_callv (va_runS (As := [.int (4 : Int32), .int (0 : Int32), .int (4 : Int32)]) (rest := []) ⟨hx, hb, hml, hown, hts⟩ (c_X6_needWithin l D cy lo n (gw cy (gw cy (hw cy w0 o P) (o + 50) T) (o + 1) G) (4 : Int32) (0 : Int32) (4 : Int32) ((br_le (show (0 : Int32) = nI 0 from rfl) (show (4 : Int32) = nI 4 from rfl) (by omega) (by omega)).mpr (by omega)) ((br_le (show (4 : Int32) = nI 4 from rfl) (show (4 : Int32) = nI 4 from rfl) (by omega) (by omega)).mpr (by omega))) (va_cwS 3 hts gX6_booked_X6_needWithin rfl rfl rfl (by decide +kernel) ⟨Nat.le_of_ble_eq_true rfl, Nat.le_of_ble_eq_true rfl⟩) (preS hP hK) rfl rfl hl.1 rfl (lv_room (Nat.le_of_ble_eq_true rfl)) dX6_booked_3 ⟨Nat.le_of_ble_eq_true rfl, Nat.le_of_ble_eq_true rfl⟩) hS (fun H locs hP hS => ?_)
  refine lv_iload_n hx hb dX6_booked_6 rfl (lv_at hl 1 rfl) ?_
  refine lv_tableOut (tgt := 68) hx hb dX6_booked_7 (by decide) (by decide) ?_
  refine lv_aload_n hx hb dX6_booked_68 rfl (lv_at hl 0 rfl) ?_
  refine x_get (ref := RX6) (C := RX6) (T := TX6) (N := 11) (ci := 6) (v := .ref (o + 101)) hx hb hts iX6 hown hK.1 hP (by omega) (by omega) (((gw_out (by omega)).trans ((gw_out (by omega)).trans (hw_0)))) rfl 4 (by decide) (hts (.fieldLink RX6 34 "PoreField" "booking" "LPoreField$Booking;") (by decide +kernel)) (fun _ h9 => h9) rfl dX6_booked_69 ?_
  refine x_get (ref := RX0) (C := RX0) (T := TX0) (N := 8) (ci := 0) (v := .int (P 101 4)) hx hb hts iX0 hown hK.1 hP (by omega) (by omega) (((gw_out (by omega)).trans ((gw_out (by omega)).trans (hw_101)))) rfl 4 (by decide) (hts (.fieldLink RX6 202 "PoreField$Booking" "at" "I") (by decide +kernel)) (fun _ h9 => h9) rfl dX6_booked_72 ?_
  exact W.iret (v := (P 101 4)) hx hb hr (fun tE ht hW => ⟨⟨(P 101 4), (), rfl, rfl, x_at ht (hP)⟩, hS.F ht⟩) hS.2.2 dX6_booked_75

set_option maxRecDepth 100000 in
set_option maxHeartbeats 4000000 in
/-- booked -/
theorem c_X6_booked (l : Launch) (D : va_G) (cy : Nat → ClassId) (lo n : Nat) (w0 : Nat → va_E) (o : Nat) (G T P : Mem) (ho1 : lo ≤ o) (ho2 : o + 118 ≤ lo + n) (k : Nat) (hk : k < 5) : Met l yX6_booked wsX6_booked ({ frames := 1, cells := 0, slots := 0, locals := 22 }) (PcW D cy lo n (gw cy (gw cy (hw cy w0 o P) (o + 50) T) (o + 1) G) [.ref o, .int (nI k)]) (QiW D lo n (gw cy (gw cy (hw cy w0 o P) (o + 50) T) (o + 1) G) (m_booked P k)) 0 0 (fun q : Nat => lo ≤ q) := by
  match k, hk with
  | 0, _ => exact c_X6_booked_0 l D cy lo n w0 o G T P ho1 ho2
  | 1, _ => exact c_X6_booked_1 l D cy lo n w0 o G T P ho1 ho2
  | 2, _ => exact c_X6_booked_2 l D cy lo n w0 o G T P ho1 ho2
  | 3, _ => exact c_X6_booked_3 l D cy lo n w0 o G T P ho1 ho2
  | 4, _ => exact c_X6_booked_4 l D cy lo n w0 o G T P ho1 ho2
  | k + 5, h => exact absurd h (by omega)

set_option maxRecDepth 100000 in
set_option maxHeartbeats 4000000 in
/-- many, 0 -/
theorem c_X6_many_0 (l : Launch) (D : va_G) (cy : Nat → ClassId) (lo n : Nat) (w0 : Nat → va_E) (o : Nat) (G T P : Mem) (ho1 : lo ≤ o) (ho2 : o + 118 ≤ lo + n) (nd : Nat) (hG : GI nd G)  : Met l yX6_many wsX6_many ({ frames := 2, cells := 0, slots := 0, locals := 43 }) (PcW D cy lo n (gw cy (gw cy (hw cy w0 o P) (o + 50) T) (o + 1) G) [.ref o, .int (0 : Int32)]) (QiW D lo n (gw cy (gw cy (hw cy w0 o P) (o + 50) T) (o + 1) G) (m_many G P 0)) 0 0 (fun q : Nat => lo ≤ q) := by
  refine Met.ofW (cc := cX6_many) (maxL := 2) (ret := (some .int)) (by decide) rfl ?_
  intro p e s m args below meth c s₁ B hml hv
  obtain ⟨rfl, hP, hK, hS⟩ := x_entry hv
  have hx := B.exec
  have hb := B.bytes
  have hr := B.returns
  have hts := atoms_spec (ws := wsX6_many) B.pre
  have hown : s.vm.findClass RX6 = some m.cls := findClass_of_methodNamed B.named
  have hlocks := B.notSynchronized
  have iX6 : ∀ w ∈ u_ws RX6 TX6 11, w ∈ wsX6_many := by decide +kernel
  have hl := lv_entry ([.ref o, .int (0 : Int32)]) (n := 2) (Nat.le_of_ble_eq_true rfl)
  rw [lg_entry_eq]
  generalize (lg_sl ([.ref o, .int (0 : Int32)]) ++ List.replicate (2 - (lg_sl ([.ref o, .int (0 : Int32)])).length) Slot.unset).toArray = ls at hl ⊢
  have hl : lv_has ls 2 [(0, .ref o), (1, .int (0 : Int32))] := hl
  refine lv_iload_n hx hb dX6_many_0 rfl (lv_at hl 1 rfl) ?_
  refine lv_iconst (v := 0) hx hb dX6_many_1 (by decide) ?_
  refine lv_bipush (v := 14) hx hb dX6_many_2 (by decide) ?_
  refine x_callv (va_runS (As := [.int (0 : Int32), .int (0 : Int32), .int (14 : Int32)]) (rest := []) ⟨hx, hb, hml, hown, hts⟩ (c_X6_needWithin l D cy lo n (gw cy (gw cy (hw cy w0 o P) (o + 50) T) (o + 1) G) (0 : Int32) (0 : Int32) (14 : Int32) ((br_le (show (0 : Int32) = nI 0 from rfl) (show (0 : Int32) = nI 0 from rfl) (by omega) (by omega)).mpr (by omega)) ((br_le (show (0 : Int32) = nI 0 from rfl) (show (14 : Int32) = nI 14 from rfl) (by omega) (by omega)).mpr (by omega))) (va_cwS 3 hts gX6_many_X6_needWithin rfl rfl rfl (by decide +kernel) ⟨Nat.le_of_ble_eq_true rfl, Nat.le_of_ble_eq_true rfl⟩) (preS hP hK) rfl rfl hl.1 rfl (lv_room (Nat.le_of_ble_eq_true rfl)) dX6_many_4 ⟨Nat.le_of_ble_eq_true rfl, Nat.le_of_ble_eq_true rfl⟩) hS (fun H locs hP hS => ?_)
  refine lv_iload_n hx hb dX6_many_7 rfl (lv_at hl 1 rfl) ?_
  refine lv_tableIn (tgt := 80) (off := 72) hx hb dX6_many_8 (by decide) (by decide) (by decide) (by decide) ?_
  refine lv_aload_n hx hb dX6_many_80 rfl (lv_at hl 0 rfl) ?_
  refine x_get (ref := RX6) (C := RX6) (T := TX6) (N := 11) (ci := 6) (v := .int (P 0 6)) hx hb hts iX6 hown hK.1 hP (by omega) (by omega) (((gw_out (by omega)).trans ((gw_out (by omega)).trans (hw_0)))) rfl 6 (by decide) (hts (.fieldLink RX6 145 "PoreField" "now" "I") (by decide +kernel)) (fun _ h9 => h9) rfl dX6_many_81 ?_
  exact W.iret (v := (P 0 6)) hx hb hr (fun tE ht hW => ⟨⟨(P 0 6), (), rfl, rfl, x_at ht (hP)⟩, hS.F ht⟩) hS.2.2 dX6_many_84

set_option maxRecDepth 100000 in
set_option maxHeartbeats 4000000 in
/-- many, 1 -/
theorem c_X6_many_1 (l : Launch) (D : va_G) (cy : Nat → ClassId) (lo n : Nat) (w0 : Nat → va_E) (o : Nat) (G T P : Mem) (ho1 : lo ≤ o) (ho2 : o + 118 ≤ lo + n) (nd : Nat) (hG : GI nd G)  : Met l yX6_many wsX6_many ({ frames := 2, cells := 0, slots := 0, locals := 43 }) (PcW D cy lo n (gw cy (gw cy (hw cy w0 o P) (o + 50) T) (o + 1) G) [.ref o, .int (1 : Int32)]) (QiW D lo n (gw cy (gw cy (hw cy w0 o P) (o + 50) T) (o + 1) G) (m_many G P 1)) 0 0 (fun q : Nat => lo ≤ q) := by
  refine Met.ofW (cc := cX6_many) (maxL := 2) (ret := (some .int)) (by decide) rfl ?_
  intro p e s m args below meth c s₁ B hml hv
  obtain ⟨rfl, hP, hK, hS⟩ := x_entry hv
  have hx := B.exec
  have hb := B.bytes
  have hr := B.returns
  have hts := atoms_spec (ws := wsX6_many) B.pre
  have hown : s.vm.findClass RX6 = some m.cls := findClass_of_methodNamed B.named
  have hlocks := B.notSynchronized
  have iX2 : ∀ w ∈ u_ws RX2 TX2 12, w ∈ wsX6_many := by decide +kernel
  have iX6 : ∀ w ∈ u_ws RX6 TX6 11, w ∈ wsX6_many := by decide +kernel
  have hl := lv_entry ([.ref o, .int (1 : Int32)]) (n := 2) (Nat.le_of_ble_eq_true rfl)
  rw [lg_entry_eq]
  generalize (lg_sl ([.ref o, .int (1 : Int32)]) ++ List.replicate (2 - (lg_sl ([.ref o, .int (1 : Int32)])).length) Slot.unset).toArray = ls at hl ⊢
  have hl : lv_has ls 2 [(0, .ref o), (1, .int (1 : Int32))] := hl
  refine lv_iload_n hx hb dX6_many_0 rfl (lv_at hl 1 rfl) ?_
  refine lv_iconst (v := 0) hx hb dX6_many_1 (by decide) ?_
  refine lv_bipush (v := 14) hx hb dX6_many_2 (by decide) ?_
  refine x_callv (va_runS (As := [.int (1 : Int32), .int (0 : Int32), .int (14 : Int32)]) (rest := []) ⟨hx, hb, hml, hown, hts⟩ (c_X6_needWithin l D cy lo n (gw cy (gw cy (hw cy w0 o P) (o + 50) T) (o + 1) G) (1 : Int32) (0 : Int32) (14 : Int32) ((br_le (show (0 : Int32) = nI 0 from rfl) (show (1 : Int32) = nI 1 from rfl) (by omega) (by omega)).mpr (by omega)) ((br_le (show (1 : Int32) = nI 1 from rfl) (show (14 : Int32) = nI 14 from rfl) (by omega) (by omega)).mpr (by omega))) (va_cwS 3 hts gX6_many_X6_needWithin rfl rfl rfl (by decide +kernel) ⟨Nat.le_of_ble_eq_true rfl, Nat.le_of_ble_eq_true rfl⟩) (preS hP hK) rfl rfl hl.1 rfl (lv_room (Nat.le_of_ble_eq_true rfl)) dX6_many_4 ⟨Nat.le_of_ble_eq_true rfl, Nat.le_of_ble_eq_true rfl⟩) hS (fun H locs hP hS => ?_)
  refine lv_iload_n hx hb dX6_many_7 rfl (lv_at hl 1 rfl) ?_
  refine lv_tableIn (tgt := 85) (off := 77) hx hb dX6_many_8 (by decide) (by decide) (by decide) (by decide) ?_
  refine lv_aload_n hx hb dX6_many_85 rfl (lv_at hl 0 rfl) ?_
  refine x_get (ref := RX6) (C := RX6) (T := TX6) (N := 11) (ci := 6) (v := .ref (o + 1)) hx hb hts iX6 hown hK.1 hP (by omega) (by omega) (((gw_out (by omega)).trans ((gw_out (by omega)).trans (hw_0)))) rfl 0 (by decide) (hts (.fieldLink RX6 10 "PoreField" "ground" "LPoreField$Ground;") (by decide +kernel)) (fun _ h9 => h9) rfl dX6_many_86 ?_
  refine x_get (ref := RX2) (C := RX2) (T := TX2) (N := 12) (ci := 2) (v := .int (G 0 2)) hx hb hts iX2 hown hK.1 hP (by omega) (by omega) (gw_0) rfl 2 (by decide) (hts (.fieldLink RX6 87 "PoreField$Ground" "drilled" "I") (by decide +kernel)) (fun _ h9 => h9) rfl dX6_many_89 ?_
  exact W.iret (v := (G 0 2)) hx hb hr (fun tE ht hW => ⟨⟨(G 0 2), (), rfl, rfl, x_at ht (hP)⟩, hS.F ht⟩) hS.2.2 dX6_many_92

set_option maxRecDepth 100000 in
set_option maxHeartbeats 4000000 in
/-- many, 2 -/
theorem c_X6_many_2 (l : Launch) (D : va_G) (cy : Nat → ClassId) (lo n : Nat) (w0 : Nat → va_E) (o : Nat) (G T P : Mem) (ho1 : lo ≤ o) (ho2 : o + 118 ≤ lo + n) (nd : Nat) (hG : GI nd G)  : Met l yX6_many wsX6_many ({ frames := 2, cells := 0, slots := 0, locals := 43 }) (PcW D cy lo n (gw cy (gw cy (hw cy w0 o P) (o + 50) T) (o + 1) G) [.ref o, .int (2 : Int32)]) (QiW D lo n (gw cy (gw cy (hw cy w0 o P) (o + 50) T) (o + 1) G) (m_many G P 2)) 0 0 (fun q : Nat => lo ≤ q) := by
  refine Met.ofW (cc := cX6_many) (maxL := 2) (ret := (some .int)) (by decide) rfl ?_
  intro p e s m args below meth c s₁ B hml hv
  obtain ⟨rfl, hP, hK, hS⟩ := x_entry hv
  have hx := B.exec
  have hb := B.bytes
  have hr := B.returns
  have hts := atoms_spec (ws := wsX6_many) B.pre
  have hown : s.vm.findClass RX6 = some m.cls := findClass_of_methodNamed B.named
  have hlocks := B.notSynchronized
  have iX6 : ∀ w ∈ u_ws RX6 TX6 11, w ∈ wsX6_many := by decide +kernel
  have hl := lv_entry ([.ref o, .int (2 : Int32)]) (n := 2) (Nat.le_of_ble_eq_true rfl)
  rw [lg_entry_eq]
  generalize (lg_sl ([.ref o, .int (2 : Int32)]) ++ List.replicate (2 - (lg_sl ([.ref o, .int (2 : Int32)])).length) Slot.unset).toArray = ls at hl ⊢
  have hl : lv_has ls 2 [(0, .ref o), (1, .int (2 : Int32))] := hl
  refine lv_iload_n hx hb dX6_many_0 rfl (lv_at hl 1 rfl) ?_
  refine lv_iconst (v := 0) hx hb dX6_many_1 (by decide) ?_
  refine lv_bipush (v := 14) hx hb dX6_many_2 (by decide) ?_
  refine x_callv (va_runS (As := [.int (2 : Int32), .int (0 : Int32), .int (14 : Int32)]) (rest := []) ⟨hx, hb, hml, hown, hts⟩ (c_X6_needWithin l D cy lo n (gw cy (gw cy (hw cy w0 o P) (o + 50) T) (o + 1) G) (2 : Int32) (0 : Int32) (14 : Int32) ((br_le (show (0 : Int32) = nI 0 from rfl) (show (2 : Int32) = nI 2 from rfl) (by omega) (by omega)).mpr (by omega)) ((br_le (show (2 : Int32) = nI 2 from rfl) (show (14 : Int32) = nI 14 from rfl) (by omega) (by omega)).mpr (by omega))) (va_cwS 3 hts gX6_many_X6_needWithin rfl rfl rfl (by decide +kernel) ⟨Nat.le_of_ble_eq_true rfl, Nat.le_of_ble_eq_true rfl⟩) (preS hP hK) rfl rfl hl.1 rfl (lv_room (Nat.le_of_ble_eq_true rfl)) dX6_many_4 ⟨Nat.le_of_ble_eq_true rfl, Nat.le_of_ble_eq_true rfl⟩) hS (fun H locs hP hS => ?_)
  refine lv_iload_n hx hb dX6_many_7 rfl (lv_at hl 1 rfl) ?_
  refine lv_tableIn (tgt := 93) (off := 85) hx hb dX6_many_8 (by decide) (by decide) (by decide) (by decide) ?_
  refine lv_aload_n hx hb dX6_many_93 rfl (lv_at hl 0 rfl) ?_
  refine x_get (ref := RX6) (C := RX6) (T := TX6) (N := 11) (ci := 6) (v := .ref (o + 1)) hx hb hts iX6 hown hK.1 hP (by omega) (by omega) (((gw_out (by omega)).trans ((gw_out (by omega)).trans (hw_0)))) rfl 0 (by decide) (hts (.fieldLink RX6 10 "PoreField" "ground" "LPoreField$Ground;") (by decide +kernel)) (fun _ h9 => h9) rfl dX6_many_94 ?_
  refine lv_iload_n hx hb dX6_many_97 rfl (lv_at hl 1 rfl) ?_
  refine lv_iconst (v := 2) hx hb dX6_many_98 (by decide) ?_
  refine lv_isub hx hb dX6_many_99 ?_
  refine x_calli (va_runV (As := [.int ((2 : Int32) - (2 : Int32))]) (rest := []) ⟨hx, hb, hml, hown, hts⟩ (c_X2_inAllCells l D cy lo n (gw cy (hw cy w0 o P) (o + 50) T) (o + 1) G (by omega) (by omega) 0 (by omega)) (cwV 1 hts gX6_many_X2_inAllCells rfl rfl rfl (by decide +kernel) ⟨Nat.le_of_ble_eq_true rfl, Nat.le_of_ble_eq_true rfl⟩) (preV hP hK (x_recv (ci := 2) (q := (RX2, TX2, 12)) hK.1 hP (by omega) (by omega) rfl (gw_0))) rfl rfl hl.1 rfl (lv_room (Nat.le_of_ble_eq_true rfl)) dX6_many_100 ⟨Nat.le_of_ble_eq_true rfl, Nat.le_of_ble_eq_true rfl⟩) hS (fun H locs hP hS => ?_)
  exact W.iret (v := (m_inAll G 0 16)) hx hb hr (fun tE ht hW => ⟨⟨(m_inAll G 0 16), (), rfl, rfl, x_at ht (hP)⟩, hS.F ht⟩) hS.2.2 dX6_many_103

set_option maxRecDepth 100000 in
set_option maxHeartbeats 4000000 in
/-- many, 3 -/
theorem c_X6_many_3 (l : Launch) (D : va_G) (cy : Nat → ClassId) (lo n : Nat) (w0 : Nat → va_E) (o : Nat) (G T P : Mem) (ho1 : lo ≤ o) (ho2 : o + 118 ≤ lo + n) (nd : Nat) (hG : GI nd G)  : Met l yX6_many wsX6_many ({ frames := 2, cells := 0, slots := 0, locals := 43 }) (PcW D cy lo n (gw cy (gw cy (hw cy w0 o P) (o + 50) T) (o + 1) G) [.ref o, .int (3 : Int32)]) (QiW D lo n (gw cy (gw cy (hw cy w0 o P) (o + 50) T) (o + 1) G) (m_many G P 3)) 0 0 (fun q : Nat => lo ≤ q) := by
  refine Met.ofW (cc := cX6_many) (maxL := 2) (ret := (some .int)) (by decide) rfl ?_
  intro p e s m args below meth c s₁ B hml hv
  obtain ⟨rfl, hP, hK, hS⟩ := x_entry hv
  have hx := B.exec
  have hb := B.bytes
  have hr := B.returns
  have hts := atoms_spec (ws := wsX6_many) B.pre
  have hown : s.vm.findClass RX6 = some m.cls := findClass_of_methodNamed B.named
  have hlocks := B.notSynchronized
  have iX6 : ∀ w ∈ u_ws RX6 TX6 11, w ∈ wsX6_many := by decide +kernel
  have hl := lv_entry ([.ref o, .int (3 : Int32)]) (n := 2) (Nat.le_of_ble_eq_true rfl)
  rw [lg_entry_eq]
  generalize (lg_sl ([.ref o, .int (3 : Int32)]) ++ List.replicate (2 - (lg_sl ([.ref o, .int (3 : Int32)])).length) Slot.unset).toArray = ls at hl ⊢
  have hl : lv_has ls 2 [(0, .ref o), (1, .int (3 : Int32))] := hl
  refine lv_iload_n hx hb dX6_many_0 rfl (lv_at hl 1 rfl) ?_
  refine lv_iconst (v := 0) hx hb dX6_many_1 (by decide) ?_
  refine lv_bipush (v := 14) hx hb dX6_many_2 (by decide) ?_
  refine x_callv (va_runS (As := [.int (3 : Int32), .int (0 : Int32), .int (14 : Int32)]) (rest := []) ⟨hx, hb, hml, hown, hts⟩ (c_X6_needWithin l D cy lo n (gw cy (gw cy (hw cy w0 o P) (o + 50) T) (o + 1) G) (3 : Int32) (0 : Int32) (14 : Int32) ((br_le (show (0 : Int32) = nI 0 from rfl) (show (3 : Int32) = nI 3 from rfl) (by omega) (by omega)).mpr (by omega)) ((br_le (show (3 : Int32) = nI 3 from rfl) (show (14 : Int32) = nI 14 from rfl) (by omega) (by omega)).mpr (by omega))) (va_cwS 3 hts gX6_many_X6_needWithin rfl rfl rfl (by decide +kernel) ⟨Nat.le_of_ble_eq_true rfl, Nat.le_of_ble_eq_true rfl⟩) (preS hP hK) rfl rfl hl.1 rfl (lv_room (Nat.le_of_ble_eq_true rfl)) dX6_many_4 ⟨Nat.le_of_ble_eq_true rfl, Nat.le_of_ble_eq_true rfl⟩) hS (fun H locs hP hS => ?_)
  refine lv_iload_n hx hb dX6_many_7 rfl (lv_at hl 1 rfl) ?_
  refine lv_tableIn (tgt := 93) (off := 85) hx hb dX6_many_8 (by decide) (by decide) (by decide) (by decide) ?_
  refine lv_aload_n hx hb dX6_many_93 rfl (lv_at hl 0 rfl) ?_
  refine x_get (ref := RX6) (C := RX6) (T := TX6) (N := 11) (ci := 6) (v := .ref (o + 1)) hx hb hts iX6 hown hK.1 hP (by omega) (by omega) (((gw_out (by omega)).trans ((gw_out (by omega)).trans (hw_0)))) rfl 0 (by decide) (hts (.fieldLink RX6 10 "PoreField" "ground" "LPoreField$Ground;") (by decide +kernel)) (fun _ h9 => h9) rfl dX6_many_94 ?_
  refine lv_iload_n hx hb dX6_many_97 rfl (lv_at hl 1 rfl) ?_
  refine lv_iconst (v := 2) hx hb dX6_many_98 (by decide) ?_
  refine lv_isub hx hb dX6_many_99 ?_
  refine x_calli (va_runV (As := [.int ((3 : Int32) - (2 : Int32))]) (rest := []) ⟨hx, hb, hml, hown, hts⟩ (c_X2_inAllCells l D cy lo n (gw cy (hw cy w0 o P) (o + 50) T) (o + 1) G (by omega) (by omega) 1 (by omega)) (cwV 1 hts gX6_many_X2_inAllCells rfl rfl rfl (by decide +kernel) ⟨Nat.le_of_ble_eq_true rfl, Nat.le_of_ble_eq_true rfl⟩) (preV hP hK (x_recv (ci := 2) (q := (RX2, TX2, 12)) hK.1 hP (by omega) (by omega) rfl (gw_0))) rfl rfl hl.1 rfl (lv_room (Nat.le_of_ble_eq_true rfl)) dX6_many_100 ⟨Nat.le_of_ble_eq_true rfl, Nat.le_of_ble_eq_true rfl⟩) hS (fun H locs hP hS => ?_)
  exact W.iret (v := (m_inAll G 1 16)) hx hb hr (fun tE ht hW => ⟨⟨(m_inAll G 1 16), (), rfl, rfl, x_at ht (hP)⟩, hS.F ht⟩) hS.2.2 dX6_many_103

set_option maxRecDepth 100000 in
set_option maxHeartbeats 4000000 in
/-- many, 4 -/
theorem c_X6_many_4 (l : Launch) (D : va_G) (cy : Nat → ClassId) (lo n : Nat) (w0 : Nat → va_E) (o : Nat) (G T P : Mem) (ho1 : lo ≤ o) (ho2 : o + 118 ≤ lo + n) (nd : Nat) (hG : GI nd G)  : Met l yX6_many wsX6_many ({ frames := 2, cells := 0, slots := 0, locals := 43 }) (PcW D cy lo n (gw cy (gw cy (hw cy w0 o P) (o + 50) T) (o + 1) G) [.ref o, .int (4 : Int32)]) (QiW D lo n (gw cy (gw cy (hw cy w0 o P) (o + 50) T) (o + 1) G) (m_many G P 4)) 0 0 (fun q : Nat => lo ≤ q) := by
  refine Met.ofW (cc := cX6_many) (maxL := 2) (ret := (some .int)) (by decide) rfl ?_
  intro p e s m args below meth c s₁ B hml hv
  obtain ⟨rfl, hP, hK, hS⟩ := x_entry hv
  have hx := B.exec
  have hb := B.bytes
  have hr := B.returns
  have hts := atoms_spec (ws := wsX6_many) B.pre
  have hown : s.vm.findClass RX6 = some m.cls := findClass_of_methodNamed B.named
  have hlocks := B.notSynchronized
  have iX6 : ∀ w ∈ u_ws RX6 TX6 11, w ∈ wsX6_many := by decide +kernel
  have hl := lv_entry ([.ref o, .int (4 : Int32)]) (n := 2) (Nat.le_of_ble_eq_true rfl)
  rw [lg_entry_eq]
  generalize (lg_sl ([.ref o, .int (4 : Int32)]) ++ List.replicate (2 - (lg_sl ([.ref o, .int (4 : Int32)])).length) Slot.unset).toArray = ls at hl ⊢
  have hl : lv_has ls 2 [(0, .ref o), (1, .int (4 : Int32))] := hl
  refine lv_iload_n hx hb dX6_many_0 rfl (lv_at hl 1 rfl) ?_
  refine lv_iconst (v := 0) hx hb dX6_many_1 (by decide) ?_
  refine lv_bipush (v := 14) hx hb dX6_many_2 (by decide) ?_
  refine x_callv (va_runS (As := [.int (4 : Int32), .int (0 : Int32), .int (14 : Int32)]) (rest := []) ⟨hx, hb, hml, hown, hts⟩ (c_X6_needWithin l D cy lo n (gw cy (gw cy (hw cy w0 o P) (o + 50) T) (o + 1) G) (4 : Int32) (0 : Int32) (14 : Int32) ((br_le (show (0 : Int32) = nI 0 from rfl) (show (4 : Int32) = nI 4 from rfl) (by omega) (by omega)).mpr (by omega)) ((br_le (show (4 : Int32) = nI 4 from rfl) (show (14 : Int32) = nI 14 from rfl) (by omega) (by omega)).mpr (by omega))) (va_cwS 3 hts gX6_many_X6_needWithin rfl rfl rfl (by decide +kernel) ⟨Nat.le_of_ble_eq_true rfl, Nat.le_of_ble_eq_true rfl⟩) (preS hP hK) rfl rfl hl.1 rfl (lv_room (Nat.le_of_ble_eq_true rfl)) dX6_many_4 ⟨Nat.le_of_ble_eq_true rfl, Nat.le_of_ble_eq_true rfl⟩) hS (fun H locs hP hS => ?_)
  refine lv_iload_n hx hb dX6_many_7 rfl (lv_at hl 1 rfl) ?_
  refine lv_tableIn (tgt := 93) (off := 85) hx hb dX6_many_8 (by decide) (by decide) (by decide) (by decide) ?_
  refine lv_aload_n hx hb dX6_many_93 rfl (lv_at hl 0 rfl) ?_
  refine x_get (ref := RX6) (C := RX6) (T := TX6) (N := 11) (ci := 6) (v := .ref (o + 1)) hx hb hts iX6 hown hK.1 hP (by omega) (by omega) (((gw_out (by omega)).trans ((gw_out (by omega)).trans (hw_0)))) rfl 0 (by decide) (hts (.fieldLink RX6 10 "PoreField" "ground" "LPoreField$Ground;") (by decide +kernel)) (fun _ h9 => h9) rfl dX6_many_94 ?_
  refine lv_iload_n hx hb dX6_many_97 rfl (lv_at hl 1 rfl) ?_
  refine lv_iconst (v := 2) hx hb dX6_many_98 (by decide) ?_
  refine lv_isub hx hb dX6_many_99 ?_
  refine x_calli (va_runV (As := [.int ((4 : Int32) - (2 : Int32))]) (rest := []) ⟨hx, hb, hml, hown, hts⟩ (c_X2_inAllCells l D cy lo n (gw cy (hw cy w0 o P) (o + 50) T) (o + 1) G (by omega) (by omega) 2 (by omega)) (cwV 1 hts gX6_many_X2_inAllCells rfl rfl rfl (by decide +kernel) ⟨Nat.le_of_ble_eq_true rfl, Nat.le_of_ble_eq_true rfl⟩) (preV hP hK (x_recv (ci := 2) (q := (RX2, TX2, 12)) hK.1 hP (by omega) (by omega) rfl (gw_0))) rfl rfl hl.1 rfl (lv_room (Nat.le_of_ble_eq_true rfl)) dX6_many_100 ⟨Nat.le_of_ble_eq_true rfl, Nat.le_of_ble_eq_true rfl⟩) hS (fun H locs hP hS => ?_)
  exact W.iret (v := (m_inAll G 2 16)) hx hb hr (fun tE ht hW => ⟨⟨(m_inAll G 2 16), (), rfl, rfl, x_at ht (hP)⟩, hS.F ht⟩) hS.2.2 dX6_many_103

set_option maxRecDepth 100000 in
set_option maxHeartbeats 4000000 in
/-- many, 5 -/
theorem c_X6_many_5 (l : Launch) (D : va_G) (cy : Nat → ClassId) (lo n : Nat) (w0 : Nat → va_E) (o : Nat) (G T P : Mem) (ho1 : lo ≤ o) (ho2 : o + 118 ≤ lo + n) (nd : Nat) (hG : GI nd G)  : Met l yX6_many wsX6_many ({ frames := 2, cells := 0, slots := 0, locals := 43 }) (PcW D cy lo n (gw cy (gw cy (hw cy w0 o P) (o + 50) T) (o + 1) G) [.ref o, .int (5 : Int32)]) (QiW D lo n (gw cy (gw cy (hw cy w0 o P) (o + 50) T) (o + 1) G) (m_many G P 5)) 0 0 (fun q : Nat => lo ≤ q) := by
  refine Met.ofW (cc := cX6_many) (maxL := 2) (ret := (some .int)) (by decide) rfl ?_
  intro p e s m args below meth c s₁ B hml hv
  obtain ⟨rfl, hP, hK, hS⟩ := x_entry hv
  have hx := B.exec
  have hb := B.bytes
  have hr := B.returns
  have hts := atoms_spec (ws := wsX6_many) B.pre
  have hown : s.vm.findClass RX6 = some m.cls := findClass_of_methodNamed B.named
  have hlocks := B.notSynchronized
  have iX6 : ∀ w ∈ u_ws RX6 TX6 11, w ∈ wsX6_many := by decide +kernel
  have hl := lv_entry ([.ref o, .int (5 : Int32)]) (n := 2) (Nat.le_of_ble_eq_true rfl)
  rw [lg_entry_eq]
  generalize (lg_sl ([.ref o, .int (5 : Int32)]) ++ List.replicate (2 - (lg_sl ([.ref o, .int (5 : Int32)])).length) Slot.unset).toArray = ls at hl ⊢
  have hl : lv_has ls 2 [(0, .ref o), (1, .int (5 : Int32))] := hl
  refine lv_iload_n hx hb dX6_many_0 rfl (lv_at hl 1 rfl) ?_
  refine lv_iconst (v := 0) hx hb dX6_many_1 (by decide) ?_
  refine lv_bipush (v := 14) hx hb dX6_many_2 (by decide) ?_
  refine x_callv (va_runS (As := [.int (5 : Int32), .int (0 : Int32), .int (14 : Int32)]) (rest := []) ⟨hx, hb, hml, hown, hts⟩ (c_X6_needWithin l D cy lo n (gw cy (gw cy (hw cy w0 o P) (o + 50) T) (o + 1) G) (5 : Int32) (0 : Int32) (14 : Int32) ((br_le (show (0 : Int32) = nI 0 from rfl) (show (5 : Int32) = nI 5 from rfl) (by omega) (by omega)).mpr (by omega)) ((br_le (show (5 : Int32) = nI 5 from rfl) (show (14 : Int32) = nI 14 from rfl) (by omega) (by omega)).mpr (by omega))) (va_cwS 3 hts gX6_many_X6_needWithin rfl rfl rfl (by decide +kernel) ⟨Nat.le_of_ble_eq_true rfl, Nat.le_of_ble_eq_true rfl⟩) (preS hP hK) rfl rfl hl.1 rfl (lv_room (Nat.le_of_ble_eq_true rfl)) dX6_many_4 ⟨Nat.le_of_ble_eq_true rfl, Nat.le_of_ble_eq_true rfl⟩) hS (fun H locs hP hS => ?_)
  refine lv_iload_n hx hb dX6_many_7 rfl (lv_at hl 1 rfl) ?_
  refine lv_tableIn (tgt := 104) (off := 96) hx hb dX6_many_8 (by decide) (by decide) (by decide) (by decide) ?_
  refine lv_aload_n hx hb dX6_many_104 rfl (lv_at hl 0 rfl) ?_
  refine x_get (ref := RX6) (C := RX6) (T := TX6) (N := 11) (ci := 6) (v := .ref (o + 102)) hx hb hts iX6 hown hK.1 hP (by omega) (by omega) (((gw_out (by omega)).trans ((gw_out (by omega)).trans (hw_0)))) rfl 5 (by decide) (hts (.fieldLink RX6 38 "PoreField" "cameUpEver" "[I") (by decide +kernel)) (fun _ h9 => h9) rfl dX6_many_105 ?_
  refine lv_iload_n hx hb dX6_many_108 rfl (lv_at hl 1 rfl) ?_
  refine lv_iconst (v := 5) hx hb dX6_many_109 (by decide) ?_
  refine lv_isub hx hb dX6_many_110 ?_
  refine x_iald hx hb hK.1 hP (by omega) (by omega) 0 (((gw_out (by omega)).trans ((gw_out (by omega)).trans (hw_row (hRow_102))))) rfl (cl_of_nI (i := 0) (by decide) (by omega)) (vp_in_of_nI (i := 0) (by decide) (by omega) (by omega)) dX6_many_111 ?_
  exact W.iret (v := (P (102) 0)) hx hb hr (fun tE ht hW => ⟨⟨(P (102) 0), (), rfl, rfl, x_at ht (hP)⟩, hS.F ht⟩) hS.2.2 dX6_many_112

set_option maxRecDepth 100000 in
set_option maxHeartbeats 4000000 in
/-- many, 6 -/
theorem c_X6_many_6 (l : Launch) (D : va_G) (cy : Nat → ClassId) (lo n : Nat) (w0 : Nat → va_E) (o : Nat) (G T P : Mem) (ho1 : lo ≤ o) (ho2 : o + 118 ≤ lo + n) (nd : Nat) (hG : GI nd G)  : Met l yX6_many wsX6_many ({ frames := 2, cells := 0, slots := 0, locals := 43 }) (PcW D cy lo n (gw cy (gw cy (hw cy w0 o P) (o + 50) T) (o + 1) G) [.ref o, .int (6 : Int32)]) (QiW D lo n (gw cy (gw cy (hw cy w0 o P) (o + 50) T) (o + 1) G) (m_many G P 6)) 0 0 (fun q : Nat => lo ≤ q) := by
  refine Met.ofW (cc := cX6_many) (maxL := 2) (ret := (some .int)) (by decide) rfl ?_
  intro p e s m args below meth c s₁ B hml hv
  obtain ⟨rfl, hP, hK, hS⟩ := x_entry hv
  have hx := B.exec
  have hb := B.bytes
  have hr := B.returns
  have hts := atoms_spec (ws := wsX6_many) B.pre
  have hown : s.vm.findClass RX6 = some m.cls := findClass_of_methodNamed B.named
  have hlocks := B.notSynchronized
  have iX6 : ∀ w ∈ u_ws RX6 TX6 11, w ∈ wsX6_many := by decide +kernel
  have hl := lv_entry ([.ref o, .int (6 : Int32)]) (n := 2) (Nat.le_of_ble_eq_true rfl)
  rw [lg_entry_eq]
  generalize (lg_sl ([.ref o, .int (6 : Int32)]) ++ List.replicate (2 - (lg_sl ([.ref o, .int (6 : Int32)])).length) Slot.unset).toArray = ls at hl ⊢
  have hl : lv_has ls 2 [(0, .ref o), (1, .int (6 : Int32))] := hl
  refine lv_iload_n hx hb dX6_many_0 rfl (lv_at hl 1 rfl) ?_
  refine lv_iconst (v := 0) hx hb dX6_many_1 (by decide) ?_
  refine lv_bipush (v := 14) hx hb dX6_many_2 (by decide) ?_
  refine x_callv (va_runS (As := [.int (6 : Int32), .int (0 : Int32), .int (14 : Int32)]) (rest := []) ⟨hx, hb, hml, hown, hts⟩ (c_X6_needWithin l D cy lo n (gw cy (gw cy (hw cy w0 o P) (o + 50) T) (o + 1) G) (6 : Int32) (0 : Int32) (14 : Int32) ((br_le (show (0 : Int32) = nI 0 from rfl) (show (6 : Int32) = nI 6 from rfl) (by omega) (by omega)).mpr (by omega)) ((br_le (show (6 : Int32) = nI 6 from rfl) (show (14 : Int32) = nI 14 from rfl) (by omega) (by omega)).mpr (by omega))) (va_cwS 3 hts gX6_many_X6_needWithin rfl rfl rfl (by decide +kernel) ⟨Nat.le_of_ble_eq_true rfl, Nat.le_of_ble_eq_true rfl⟩) (preS hP hK) rfl rfl hl.1 rfl (lv_room (Nat.le_of_ble_eq_true rfl)) dX6_many_4 ⟨Nat.le_of_ble_eq_true rfl, Nat.le_of_ble_eq_true rfl⟩) hS (fun H locs hP hS => ?_)
  refine lv_iload_n hx hb dX6_many_7 rfl (lv_at hl 1 rfl) ?_
  refine lv_tableIn (tgt := 104) (off := 96) hx hb dX6_many_8 (by decide) (by decide) (by decide) (by decide) ?_
  refine lv_aload_n hx hb dX6_many_104 rfl (lv_at hl 0 rfl) ?_
  refine x_get (ref := RX6) (C := RX6) (T := TX6) (N := 11) (ci := 6) (v := .ref (o + 102)) hx hb hts iX6 hown hK.1 hP (by omega) (by omega) (((gw_out (by omega)).trans ((gw_out (by omega)).trans (hw_0)))) rfl 5 (by decide) (hts (.fieldLink RX6 38 "PoreField" "cameUpEver" "[I") (by decide +kernel)) (fun _ h9 => h9) rfl dX6_many_105 ?_
  refine lv_iload_n hx hb dX6_many_108 rfl (lv_at hl 1 rfl) ?_
  refine lv_iconst (v := 5) hx hb dX6_many_109 (by decide) ?_
  refine lv_isub hx hb dX6_many_110 ?_
  refine x_iald hx hb hK.1 hP (by omega) (by omega) 0 (((gw_out (by omega)).trans ((gw_out (by omega)).trans (hw_row (hRow_102))))) rfl (cl_of_nI (i := 1) (by decide) (by omega)) (vp_in_of_nI (i := 1) (by decide) (by omega) (by omega)) dX6_many_111 ?_
  exact W.iret (v := (P (102) 1)) hx hb hr (fun tE ht hW => ⟨⟨(P (102) 1), (), rfl, rfl, x_at ht (hP)⟩, hS.F ht⟩) hS.2.2 dX6_many_112

set_option maxRecDepth 100000 in
set_option maxHeartbeats 4000000 in
/-- many, 7 -/
theorem c_X6_many_7 (l : Launch) (D : va_G) (cy : Nat → ClassId) (lo n : Nat) (w0 : Nat → va_E) (o : Nat) (G T P : Mem) (ho1 : lo ≤ o) (ho2 : o + 118 ≤ lo + n) (nd : Nat) (hG : GI nd G)  : Met l yX6_many wsX6_many ({ frames := 2, cells := 0, slots := 0, locals := 43 }) (PcW D cy lo n (gw cy (gw cy (hw cy w0 o P) (o + 50) T) (o + 1) G) [.ref o, .int (7 : Int32)]) (QiW D lo n (gw cy (gw cy (hw cy w0 o P) (o + 50) T) (o + 1) G) (m_many G P 7)) 0 0 (fun q : Nat => lo ≤ q) := by
  refine Met.ofW (cc := cX6_many) (maxL := 2) (ret := (some .int)) (by decide) rfl ?_
  intro p e s m args below meth c s₁ B hml hv
  obtain ⟨rfl, hP, hK, hS⟩ := x_entry hv
  have hx := B.exec
  have hb := B.bytes
  have hr := B.returns
  have hts := atoms_spec (ws := wsX6_many) B.pre
  have hown : s.vm.findClass RX6 = some m.cls := findClass_of_methodNamed B.named
  have hlocks := B.notSynchronized
  have iX6 : ∀ w ∈ u_ws RX6 TX6 11, w ∈ wsX6_many := by decide +kernel
  have hl := lv_entry ([.ref o, .int (7 : Int32)]) (n := 2) (Nat.le_of_ble_eq_true rfl)
  rw [lg_entry_eq]
  generalize (lg_sl ([.ref o, .int (7 : Int32)]) ++ List.replicate (2 - (lg_sl ([.ref o, .int (7 : Int32)])).length) Slot.unset).toArray = ls at hl ⊢
  have hl : lv_has ls 2 [(0, .ref o), (1, .int (7 : Int32))] := hl
  refine lv_iload_n hx hb dX6_many_0 rfl (lv_at hl 1 rfl) ?_
  refine lv_iconst (v := 0) hx hb dX6_many_1 (by decide) ?_
  refine lv_bipush (v := 14) hx hb dX6_many_2 (by decide) ?_
  refine x_callv (va_runS (As := [.int (7 : Int32), .int (0 : Int32), .int (14 : Int32)]) (rest := []) ⟨hx, hb, hml, hown, hts⟩ (c_X6_needWithin l D cy lo n (gw cy (gw cy (hw cy w0 o P) (o + 50) T) (o + 1) G) (7 : Int32) (0 : Int32) (14 : Int32) ((br_le (show (0 : Int32) = nI 0 from rfl) (show (7 : Int32) = nI 7 from rfl) (by omega) (by omega)).mpr (by omega)) ((br_le (show (7 : Int32) = nI 7 from rfl) (show (14 : Int32) = nI 14 from rfl) (by omega) (by omega)).mpr (by omega))) (va_cwS 3 hts gX6_many_X6_needWithin rfl rfl rfl (by decide +kernel) ⟨Nat.le_of_ble_eq_true rfl, Nat.le_of_ble_eq_true rfl⟩) (preS hP hK) rfl rfl hl.1 rfl (lv_room (Nat.le_of_ble_eq_true rfl)) dX6_many_4 ⟨Nat.le_of_ble_eq_true rfl, Nat.le_of_ble_eq_true rfl⟩) hS (fun H locs hP hS => ?_)
  refine lv_iload_n hx hb dX6_many_7 rfl (lv_at hl 1 rfl) ?_
  refine lv_tableIn (tgt := 104) (off := 96) hx hb dX6_many_8 (by decide) (by decide) (by decide) (by decide) ?_
  refine lv_aload_n hx hb dX6_many_104 rfl (lv_at hl 0 rfl) ?_
  refine x_get (ref := RX6) (C := RX6) (T := TX6) (N := 11) (ci := 6) (v := .ref (o + 102)) hx hb hts iX6 hown hK.1 hP (by omega) (by omega) (((gw_out (by omega)).trans ((gw_out (by omega)).trans (hw_0)))) rfl 5 (by decide) (hts (.fieldLink RX6 38 "PoreField" "cameUpEver" "[I") (by decide +kernel)) (fun _ h9 => h9) rfl dX6_many_105 ?_
  refine lv_iload_n hx hb dX6_many_108 rfl (lv_at hl 1 rfl) ?_
  refine lv_iconst (v := 5) hx hb dX6_many_109 (by decide) ?_
  refine lv_isub hx hb dX6_many_110 ?_
  refine x_iald hx hb hK.1 hP (by omega) (by omega) 0 (((gw_out (by omega)).trans ((gw_out (by omega)).trans (hw_row (hRow_102))))) rfl (cl_of_nI (i := 2) (by decide) (by omega)) (vp_in_of_nI (i := 2) (by decide) (by omega) (by omega)) dX6_many_111 ?_
  exact W.iret (v := (P (102) 2)) hx hb hr (fun tE ht hW => ⟨⟨(P (102) 2), (), rfl, rfl, x_at ht (hP)⟩, hS.F ht⟩) hS.2.2 dX6_many_112

set_option maxRecDepth 100000 in
set_option maxHeartbeats 4000000 in
/-- many, 8 -/
theorem c_X6_many_8 (l : Launch) (D : va_G) (cy : Nat → ClassId) (lo n : Nat) (w0 : Nat → va_E) (o : Nat) (G T P : Mem) (ho1 : lo ≤ o) (ho2 : o + 118 ≤ lo + n) (nd : Nat) (hG : GI nd G)  : Met l yX6_many wsX6_many ({ frames := 2, cells := 0, slots := 0, locals := 43 }) (PcW D cy lo n (gw cy (gw cy (hw cy w0 o P) (o + 50) T) (o + 1) G) [.ref o, .int (8 : Int32)]) (QiW D lo n (gw cy (gw cy (hw cy w0 o P) (o + 50) T) (o + 1) G) (m_many G P 8)) 0 0 (fun q : Nat => lo ≤ q) := by
  refine Met.ofW (cc := cX6_many) (maxL := 2) (ret := (some .int)) (by decide) rfl ?_
  intro p e s m args below meth c s₁ B hml hv
  obtain ⟨rfl, hP, hK, hS⟩ := x_entry hv
  have hx := B.exec
  have hb := B.bytes
  have hr := B.returns
  have hts := atoms_spec (ws := wsX6_many) B.pre
  have hown : s.vm.findClass RX6 = some m.cls := findClass_of_methodNamed B.named
  have hlocks := B.notSynchronized
  have iX2 : ∀ w ∈ u_ws RX2 TX2 12, w ∈ wsX6_many := by decide +kernel
  have iX6 : ∀ w ∈ u_ws RX6 TX6 11, w ∈ wsX6_many := by decide +kernel
  have hl := lv_entry ([.ref o, .int (8 : Int32)]) (n := 2) (Nat.le_of_ble_eq_true rfl)
  rw [lg_entry_eq]
  generalize (lg_sl ([.ref o, .int (8 : Int32)]) ++ List.replicate (2 - (lg_sl ([.ref o, .int (8 : Int32)])).length) Slot.unset).toArray = ls at hl ⊢
  have hl : lv_has ls 2 [(0, .ref o), (1, .int (8 : Int32))] := hl
  refine lv_iload_n hx hb dX6_many_0 rfl (lv_at hl 1 rfl) ?_
  refine lv_iconst (v := 0) hx hb dX6_many_1 (by decide) ?_
  refine lv_bipush (v := 14) hx hb dX6_many_2 (by decide) ?_
  refine x_callv (va_runS (As := [.int (8 : Int32), .int (0 : Int32), .int (14 : Int32)]) (rest := []) ⟨hx, hb, hml, hown, hts⟩ (c_X6_needWithin l D cy lo n (gw cy (gw cy (hw cy w0 o P) (o + 50) T) (o + 1) G) (8 : Int32) (0 : Int32) (14 : Int32) ((br_le (show (0 : Int32) = nI 0 from rfl) (show (8 : Int32) = nI 8 from rfl) (by omega) (by omega)).mpr (by omega)) ((br_le (show (8 : Int32) = nI 8 from rfl) (show (14 : Int32) = nI 14 from rfl) (by omega) (by omega)).mpr (by omega))) (va_cwS 3 hts gX6_many_X6_needWithin rfl rfl rfl (by decide +kernel) ⟨Nat.le_of_ble_eq_true rfl, Nat.le_of_ble_eq_true rfl⟩) (preS hP hK) rfl rfl hl.1 rfl (lv_room (Nat.le_of_ble_eq_true rfl)) dX6_many_4 ⟨Nat.le_of_ble_eq_true rfl, Nat.le_of_ble_eq_true rfl⟩) hS (fun H locs hP hS => ?_)
  refine lv_iload_n hx hb dX6_many_7 rfl (lv_at hl 1 rfl) ?_
  refine lv_tableIn (tgt := 113) (off := 105) hx hb dX6_many_8 (by decide) (by decide) (by decide) (by decide) ?_
  refine lv_aload_n hx hb dX6_many_113 rfl (lv_at hl 0 rfl) ?_
  refine x_get (ref := RX6) (C := RX6) (T := TX6) (N := 11) (ci := 6) (v := .ref (o + 1)) hx hb hts iX6 hown hK.1 hP (by omega) (by omega) (((gw_out (by omega)).trans ((gw_out (by omega)).trans (hw_0)))) rfl 0 (by decide) (hts (.fieldLink RX6 10 "PoreField" "ground" "LPoreField$Ground;") (by decide +kernel)) (fun _ h9 => h9) rfl dX6_many_114 ?_
  refine x_get (ref := RX2) (C := RX2) (T := TX2) (N := 12) (ci := 2) (v := .int (G 0 6)) hx hb hts iX2 hown hK.1 hP (by omega) (by omega) (gw_0) rfl 6 (by decide) (hts (.fieldLink RX6 134 "PoreField$Ground" "tankHas" "I") (by decide +kernel)) (fun _ h9 => h9) rfl dX6_many_117 ?_
  exact W.iret (v := (G 0 6)) hx hb hr (fun tE ht hW => ⟨⟨(G 0 6), (), rfl, rfl, x_at ht (hP)⟩, hS.F ht⟩) hS.2.2 dX6_many_120

set_option maxRecDepth 100000 in
set_option maxHeartbeats 4000000 in
/-- many, 9 -/
theorem c_X6_many_9 (l : Launch) (D : va_G) (cy : Nat → ClassId) (lo n : Nat) (w0 : Nat → va_E) (o : Nat) (G T P : Mem) (ho1 : lo ≤ o) (ho2 : o + 118 ≤ lo + n) (nd : Nat) (hG : GI nd G)  : Met l yX6_many wsX6_many ({ frames := 2, cells := 0, slots := 0, locals := 43 }) (PcW D cy lo n (gw cy (gw cy (hw cy w0 o P) (o + 50) T) (o + 1) G) [.ref o, .int (9 : Int32)]) (QiW D lo n (gw cy (gw cy (hw cy w0 o P) (o + 50) T) (o + 1) G) (m_many G P 9)) 0 0 (fun q : Nat => lo ≤ q) := by
  refine Met.ofW (cc := cX6_many) (maxL := 2) (ret := (some .int)) (by decide) rfl ?_
  intro p e s m args below meth c s₁ B hml hv
  obtain ⟨rfl, hP, hK, hS⟩ := x_entry hv
  have hx := B.exec
  have hb := B.bytes
  have hr := B.returns
  have hts := atoms_spec (ws := wsX6_many) B.pre
  have hown : s.vm.findClass RX6 = some m.cls := findClass_of_methodNamed B.named
  have hlocks := B.notSynchronized
  have iX6 : ∀ w ∈ u_ws RX6 TX6 11, w ∈ wsX6_many := by decide +kernel
  have hl := lv_entry ([.ref o, .int (9 : Int32)]) (n := 2) (Nat.le_of_ble_eq_true rfl)
  rw [lg_entry_eq]
  generalize (lg_sl ([.ref o, .int (9 : Int32)]) ++ List.replicate (2 - (lg_sl ([.ref o, .int (9 : Int32)])).length) Slot.unset).toArray = ls at hl ⊢
  have hl : lv_has ls 2 [(0, .ref o), (1, .int (9 : Int32))] := hl
  refine lv_iload_n hx hb dX6_many_0 rfl (lv_at hl 1 rfl) ?_
  refine lv_iconst (v := 0) hx hb dX6_many_1 (by decide) ?_
  refine lv_bipush (v := 14) hx hb dX6_many_2 (by decide) ?_
  refine x_callv (va_runS (As := [.int (9 : Int32), .int (0 : Int32), .int (14 : Int32)]) (rest := []) ⟨hx, hb, hml, hown, hts⟩ (c_X6_needWithin l D cy lo n (gw cy (gw cy (hw cy w0 o P) (o + 50) T) (o + 1) G) (9 : Int32) (0 : Int32) (14 : Int32) ((br_le (show (0 : Int32) = nI 0 from rfl) (show (9 : Int32) = nI 9 from rfl) (by omega) (by omega)).mpr (by omega)) ((br_le (show (9 : Int32) = nI 9 from rfl) (show (14 : Int32) = nI 14 from rfl) (by omega) (by omega)).mpr (by omega))) (va_cwS 3 hts gX6_many_X6_needWithin rfl rfl rfl (by decide +kernel) ⟨Nat.le_of_ble_eq_true rfl, Nat.le_of_ble_eq_true rfl⟩) (preS hP hK) rfl rfl hl.1 rfl (lv_room (Nat.le_of_ble_eq_true rfl)) dX6_many_4 ⟨Nat.le_of_ble_eq_true rfl, Nat.le_of_ble_eq_true rfl⟩) hS (fun H locs hP hS => ?_)
  refine lv_iload_n hx hb dX6_many_7 rfl (lv_at hl 1 rfl) ?_
  refine lv_tableIn (tgt := 121) (off := 113) hx hb dX6_many_8 (by decide) (by decide) (by decide) (by decide) ?_
  refine lv_aload_n hx hb dX6_many_121 rfl (lv_at hl 0 rfl) ?_
  refine x_get (ref := RX6) (C := RX6) (T := TX6) (N := 11) (ci := 6) (v := .int (P 0 8)) hx hb hts iX6 hown hK.1 hP (by omega) (by omega) (((gw_out (by omega)).trans ((gw_out (by omega)).trans (hw_0)))) rfl 8 (by decide) (hts (.fieldLink RX6 223 "PoreField" "flaredEver" "I") (by decide +kernel)) (fun _ h9 => h9) rfl dX6_many_122 ?_
  exact W.iret (v := (P 0 8)) hx hb hr (fun tE ht hW => ⟨⟨(P 0 8), (), rfl, rfl, x_at ht (hP)⟩, hS.F ht⟩) hS.2.2 dX6_many_125

set_option maxRecDepth 100000 in
set_option maxHeartbeats 4000000 in
/-- many, 10 -/
theorem c_X6_many_10 (l : Launch) (D : va_G) (cy : Nat → ClassId) (lo n : Nat) (w0 : Nat → va_E) (o : Nat) (G T P : Mem) (ho1 : lo ≤ o) (ho2 : o + 118 ≤ lo + n) (nd : Nat) (hG : GI nd G)  : Met l yX6_many wsX6_many ({ frames := 2, cells := 0, slots := 0, locals := 43 }) (PcW D cy lo n (gw cy (gw cy (hw cy w0 o P) (o + 50) T) (o + 1) G) [.ref o, .int (10 : Int32)]) (QiW D lo n (gw cy (gw cy (hw cy w0 o P) (o + 50) T) (o + 1) G) (m_many G P 10)) 0 0 (fun q : Nat => lo ≤ q) := by
  refine Met.ofW (cc := cX6_many) (maxL := 2) (ret := (some .int)) (by decide) rfl ?_
  intro p e s m args below meth c s₁ B hml hv
  obtain ⟨rfl, hP, hK, hS⟩ := x_entry hv
  have hx := B.exec
  have hb := B.bytes
  have hr := B.returns
  have hts := atoms_spec (ws := wsX6_many) B.pre
  have hown : s.vm.findClass RX6 = some m.cls := findClass_of_methodNamed B.named
  have hlocks := B.notSynchronized
  have iX6 : ∀ w ∈ u_ws RX6 TX6 11, w ∈ wsX6_many := by decide +kernel
  have hl := lv_entry ([.ref o, .int (10 : Int32)]) (n := 2) (Nat.le_of_ble_eq_true rfl)
  rw [lg_entry_eq]
  generalize (lg_sl ([.ref o, .int (10 : Int32)]) ++ List.replicate (2 - (lg_sl ([.ref o, .int (10 : Int32)])).length) Slot.unset).toArray = ls at hl ⊢
  have hl : lv_has ls 2 [(0, .ref o), (1, .int (10 : Int32))] := hl
  refine lv_iload_n hx hb dX6_many_0 rfl (lv_at hl 1 rfl) ?_
  refine lv_iconst (v := 0) hx hb dX6_many_1 (by decide) ?_
  refine lv_bipush (v := 14) hx hb dX6_many_2 (by decide) ?_
  refine x_callv (va_runS (As := [.int (10 : Int32), .int (0 : Int32), .int (14 : Int32)]) (rest := []) ⟨hx, hb, hml, hown, hts⟩ (c_X6_needWithin l D cy lo n (gw cy (gw cy (hw cy w0 o P) (o + 50) T) (o + 1) G) (10 : Int32) (0 : Int32) (14 : Int32) ((br_le (show (0 : Int32) = nI 0 from rfl) (show (10 : Int32) = nI 10 from rfl) (by omega) (by omega)).mpr (by omega)) ((br_le (show (10 : Int32) = nI 10 from rfl) (show (14 : Int32) = nI 14 from rfl) (by omega) (by omega)).mpr (by omega))) (va_cwS 3 hts gX6_many_X6_needWithin rfl rfl rfl (by decide +kernel) ⟨Nat.le_of_ble_eq_true rfl, Nat.le_of_ble_eq_true rfl⟩) (preS hP hK) rfl rfl hl.1 rfl (lv_room (Nat.le_of_ble_eq_true rfl)) dX6_many_4 ⟨Nat.le_of_ble_eq_true rfl, Nat.le_of_ble_eq_true rfl⟩) hS (fun H locs hP hS => ?_)
  refine lv_iload_n hx hb dX6_many_7 rfl (lv_at hl 1 rfl) ?_
  refine lv_tableIn (tgt := 126) (off := 118) hx hb dX6_many_8 (by decide) (by decide) (by decide) (by decide) ?_
  refine lv_aload_n hx hb dX6_many_126 rfl (lv_at hl 0 rfl) ?_
  refine x_get (ref := RX6) (C := RX6) (T := TX6) (N := 11) (ci := 6) (v := .int (P 0 9)) hx hb hts iX6 hown hK.1 hP (by omega) (by omega) (((gw_out (by omega)).trans ((gw_out (by omega)).trans (hw_0)))) rfl 9 (by decide) (hts (.fieldLink RX6 226 "PoreField" "putBackEver" "I") (by decide +kernel)) (fun _ h9 => h9) rfl dX6_many_127 ?_
  exact W.iret (v := (P 0 9)) hx hb hr (fun tE ht hW => ⟨⟨(P 0 9), (), rfl, rfl, x_at ht (hP)⟩, hS.F ht⟩) hS.2.2 dX6_many_130

set_option maxRecDepth 100000 in
set_option maxHeartbeats 4000000 in
/-- many, 11 -/
theorem c_X6_many_11 (l : Launch) (D : va_G) (cy : Nat → ClassId) (lo n : Nat) (w0 : Nat → va_E) (o : Nat) (G T P : Mem) (ho1 : lo ≤ o) (ho2 : o + 118 ≤ lo + n) (nd : Nat) (hG : GI nd G)  : Met l yX6_many wsX6_many ({ frames := 2, cells := 0, slots := 0, locals := 43 }) (PcW D cy lo n (gw cy (gw cy (hw cy w0 o P) (o + 50) T) (o + 1) G) [.ref o, .int (11 : Int32)]) (QiW D lo n (gw cy (gw cy (hw cy w0 o P) (o + 50) T) (o + 1) G) (m_many G P 11)) 0 0 (fun q : Nat => lo ≤ q) := by
  refine Met.ofW (cc := cX6_many) (maxL := 2) (ret := (some .int)) (by decide) rfl ?_
  intro p e s m args below meth c s₁ B hml hv
  obtain ⟨rfl, hP, hK, hS⟩ := x_entry hv
  have hx := B.exec
  have hb := B.bytes
  have hr := B.returns
  have hts := atoms_spec (ws := wsX6_many) B.pre
  have hown : s.vm.findClass RX6 = some m.cls := findClass_of_methodNamed B.named
  have hlocks := B.notSynchronized
  have iX6 : ∀ w ∈ u_ws RX6 TX6 11, w ∈ wsX6_many := by decide +kernel
  have hl := lv_entry ([.ref o, .int (11 : Int32)]) (n := 2) (Nat.le_of_ble_eq_true rfl)
  rw [lg_entry_eq]
  generalize (lg_sl ([.ref o, .int (11 : Int32)]) ++ List.replicate (2 - (lg_sl ([.ref o, .int (11 : Int32)])).length) Slot.unset).toArray = ls at hl ⊢
  have hl : lv_has ls 2 [(0, .ref o), (1, .int (11 : Int32))] := hl
  refine lv_iload_n hx hb dX6_many_0 rfl (lv_at hl 1 rfl) ?_
  refine lv_iconst (v := 0) hx hb dX6_many_1 (by decide) ?_
  refine lv_bipush (v := 14) hx hb dX6_many_2 (by decide) ?_
  refine x_callv (va_runS (As := [.int (11 : Int32), .int (0 : Int32), .int (14 : Int32)]) (rest := []) ⟨hx, hb, hml, hown, hts⟩ (c_X6_needWithin l D cy lo n (gw cy (gw cy (hw cy w0 o P) (o + 50) T) (o + 1) G) (11 : Int32) (0 : Int32) (14 : Int32) ((br_le (show (0 : Int32) = nI 0 from rfl) (show (11 : Int32) = nI 11 from rfl) (by omega) (by omega)).mpr (by omega)) ((br_le (show (11 : Int32) = nI 11 from rfl) (show (14 : Int32) = nI 14 from rfl) (by omega) (by omega)).mpr (by omega))) (va_cwS 3 hts gX6_many_X6_needWithin rfl rfl rfl (by decide +kernel) ⟨Nat.le_of_ble_eq_true rfl, Nat.le_of_ble_eq_true rfl⟩) (preS hP hK) rfl rfl hl.1 rfl (lv_room (Nat.le_of_ble_eq_true rfl)) dX6_many_4 ⟨Nat.le_of_ble_eq_true rfl, Nat.le_of_ble_eq_true rfl⟩) hS (fun H locs hP hS => ?_)
  refine lv_iload_n hx hb dX6_many_7 rfl (lv_at hl 1 rfl) ?_
  refine lv_tableIn (tgt := 131) (off := 123) hx hb dX6_many_8 (by decide) (by decide) (by decide) (by decide) ?_
  refine lv_aload_n hx hb dX6_many_131 rfl (lv_at hl 0 rfl) ?_
  refine x_get (ref := RX6) (C := RX6) (T := TX6) (N := 11) (ci := 6) (v := .int (P 0 10)) hx hb hts iX6 hown hK.1 hP (by omega) (by omega) (((gw_out (by omega)).trans ((gw_out (by omega)).trans (hw_0)))) rfl 10 (by decide) (hts (.fieldLink RX6 229 "PoreField" "waterInEver" "I") (by decide +kernel)) (fun _ h9 => h9) rfl dX6_many_132 ?_
  exact W.iret (v := (P 0 10)) hx hb hr (fun tE ht hW => ⟨⟨(P 0 10), (), rfl, rfl, x_at ht (hP)⟩, hS.F ht⟩) hS.2.2 dX6_many_135

set_option maxRecDepth 100000 in
set_option maxHeartbeats 4000000 in
/-- many, 12 -/
theorem c_X6_many_12 (l : Launch) (D : va_G) (cy : Nat → ClassId) (lo n : Nat) (w0 : Nat → va_E) (o : Nat) (G T P : Mem) (ho1 : lo ≤ o) (ho2 : o + 118 ≤ lo + n) (nd : Nat) (hG : GI nd G)  : Met l yX6_many wsX6_many ({ frames := 2, cells := 0, slots := 0, locals := 43 }) (PcW D cy lo n (gw cy (gw cy (hw cy w0 o P) (o + 50) T) (o + 1) G) [.ref o, .int (12 : Int32)]) (QiW D lo n (gw cy (gw cy (hw cy w0 o P) (o + 50) T) (o + 1) G) (m_many G P 12)) 0 0 (fun q : Nat => lo ≤ q) := by
  refine Met.ofW (cc := cX6_many) (maxL := 2) (ret := (some .int)) (by decide) rfl ?_
  intro p e s m args below meth c s₁ B hml hv
  obtain ⟨rfl, hP, hK, hS⟩ := x_entry hv
  have hx := B.exec
  have hb := B.bytes
  have hr := B.returns
  have hts := atoms_spec (ws := wsX6_many) B.pre
  have hown : s.vm.findClass RX6 = some m.cls := findClass_of_methodNamed B.named
  have hlocks := B.notSynchronized
  have iX6 : ∀ w ∈ u_ws RX6 TX6 11, w ∈ wsX6_many := by decide +kernel
  have hl := lv_entry ([.ref o, .int (12 : Int32)]) (n := 2) (Nat.le_of_ble_eq_true rfl)
  rw [lg_entry_eq]
  generalize (lg_sl ([.ref o, .int (12 : Int32)]) ++ List.replicate (2 - (lg_sl ([.ref o, .int (12 : Int32)])).length) Slot.unset).toArray = ls at hl ⊢
  have hl : lv_has ls 2 [(0, .ref o), (1, .int (12 : Int32))] := hl
  refine lv_iload_n hx hb dX6_many_0 rfl (lv_at hl 1 rfl) ?_
  refine lv_iconst (v := 0) hx hb dX6_many_1 (by decide) ?_
  refine lv_bipush (v := 14) hx hb dX6_many_2 (by decide) ?_
  refine x_callv (va_runS (As := [.int (12 : Int32), .int (0 : Int32), .int (14 : Int32)]) (rest := []) ⟨hx, hb, hml, hown, hts⟩ (c_X6_needWithin l D cy lo n (gw cy (gw cy (hw cy w0 o P) (o + 50) T) (o + 1) G) (12 : Int32) (0 : Int32) (14 : Int32) ((br_le (show (0 : Int32) = nI 0 from rfl) (show (12 : Int32) = nI 12 from rfl) (by omega) (by omega)).mpr (by omega)) ((br_le (show (12 : Int32) = nI 12 from rfl) (show (14 : Int32) = nI 14 from rfl) (by omega) (by omega)).mpr (by omega))) (va_cwS 3 hts gX6_many_X6_needWithin rfl rfl rfl (by decide +kernel) ⟨Nat.le_of_ble_eq_true rfl, Nat.le_of_ble_eq_true rfl⟩) (preS hP hK) rfl rfl hl.1 rfl (lv_room (Nat.le_of_ble_eq_true rfl)) dX6_many_4 ⟨Nat.le_of_ble_eq_true rfl, Nat.le_of_ble_eq_true rfl⟩) hS (fun H locs hP hS => ?_)
  refine lv_iload_n hx hb dX6_many_7 rfl (lv_at hl 1 rfl) ?_
  refine lv_tableIn (tgt := 136) (off := 128) hx hb dX6_many_8 (by decide) (by decide) (by decide) (by decide) ?_
  refine lv_aload_n hx hb dX6_many_136 rfl (lv_at hl 0 rfl) ?_
  refine x_get (ref := RX6) (C := RX6) (T := TX6) (N := 11) (ci := 6) (v := .int (P 0 8)) hx hb hts iX6 hown hK.1 hP (by omega) (by omega) (((gw_out (by omega)).trans ((gw_out (by omega)).trans (hw_0)))) rfl 8 (by decide) (hts (.fieldLink RX6 223 "PoreField" "flaredEver" "I") (by decide +kernel)) (fun _ h9 => h9) rfl dX6_many_137 ?_
  refine lv_ineg hx hb dX6_many_140 ?_
  exact W.iret (v := (-(P 0 8))) hx hb hr (fun tE ht hW => ⟨⟨(-(P 0 8)), (), rfl, rfl, x_at ht (hP)⟩, hS.F ht⟩) hS.2.2 dX6_many_141

set_option maxRecDepth 100000 in
set_option maxHeartbeats 4000000 in
/-- many, 13 -/
theorem c_X6_many_13 (l : Launch) (D : va_G) (cy : Nat → ClassId) (lo n : Nat) (w0 : Nat → va_E) (o : Nat) (G T P : Mem) (ho1 : lo ≤ o) (ho2 : o + 118 ≤ lo + n) (nd : Nat) (hG : GI nd G)  : Met l yX6_many wsX6_many ({ frames := 2, cells := 0, slots := 0, locals := 43 }) (PcW D cy lo n (gw cy (gw cy (hw cy w0 o P) (o + 50) T) (o + 1) G) [.ref o, .int (13 : Int32)]) (QiW D lo n (gw cy (gw cy (hw cy w0 o P) (o + 50) T) (o + 1) G) (m_many G P 13)) 0 0 (fun q : Nat => lo ≤ q) := by
  refine Met.ofW (cc := cX6_many) (maxL := 2) (ret := (some .int)) (by decide) rfl ?_
  intro p e s m args below meth c s₁ B hml hv
  obtain ⟨rfl, hP, hK, hS⟩ := x_entry hv
  have hx := B.exec
  have hb := B.bytes
  have hr := B.returns
  have hts := atoms_spec (ws := wsX6_many) B.pre
  have hown : s.vm.findClass RX6 = some m.cls := findClass_of_methodNamed B.named
  have hlocks := B.notSynchronized
  have iX6 : ∀ w ∈ u_ws RX6 TX6 11, w ∈ wsX6_many := by decide +kernel
  have hl := lv_entry ([.ref o, .int (13 : Int32)]) (n := 2) (Nat.le_of_ble_eq_true rfl)
  rw [lg_entry_eq]
  generalize (lg_sl ([.ref o, .int (13 : Int32)]) ++ List.replicate (2 - (lg_sl ([.ref o, .int (13 : Int32)])).length) Slot.unset).toArray = ls at hl ⊢
  have hl : lv_has ls 2 [(0, .ref o), (1, .int (13 : Int32))] := hl
  refine lv_iload_n hx hb dX6_many_0 rfl (lv_at hl 1 rfl) ?_
  refine lv_iconst (v := 0) hx hb dX6_many_1 (by decide) ?_
  refine lv_bipush (v := 14) hx hb dX6_many_2 (by decide) ?_
  refine x_callv (va_runS (As := [.int (13 : Int32), .int (0 : Int32), .int (14 : Int32)]) (rest := []) ⟨hx, hb, hml, hown, hts⟩ (c_X6_needWithin l D cy lo n (gw cy (gw cy (hw cy w0 o P) (o + 50) T) (o + 1) G) (13 : Int32) (0 : Int32) (14 : Int32) ((br_le (show (0 : Int32) = nI 0 from rfl) (show (13 : Int32) = nI 13 from rfl) (by omega) (by omega)).mpr (by omega)) ((br_le (show (13 : Int32) = nI 13 from rfl) (show (14 : Int32) = nI 14 from rfl) (by omega) (by omega)).mpr (by omega))) (va_cwS 3 hts gX6_many_X6_needWithin rfl rfl rfl (by decide +kernel) ⟨Nat.le_of_ble_eq_true rfl, Nat.le_of_ble_eq_true rfl⟩) (preS hP hK) rfl rfl hl.1 rfl (lv_room (Nat.le_of_ble_eq_true rfl)) dX6_many_4 ⟨Nat.le_of_ble_eq_true rfl, Nat.le_of_ble_eq_true rfl⟩) hS (fun H locs hP hS => ?_)
  refine lv_iload_n hx hb dX6_many_7 rfl (lv_at hl 1 rfl) ?_
  refine lv_tableIn (tgt := 142) (off := 134) hx hb dX6_many_8 (by decide) (by decide) (by decide) (by decide) ?_
  refine lv_aload_n hx hb dX6_many_142 rfl (lv_at hl 0 rfl) ?_
  refine x_get (ref := RX6) (C := RX6) (T := TX6) (N := 11) (ci := 6) (v := .ref (o + 1)) hx hb hts iX6 hown hK.1 hP (by omega) (by omega) (((gw_out (by omega)).trans ((gw_out (by omega)).trans (hw_0)))) rfl 0 (by decide) (hts (.fieldLink RX6 10 "PoreField" "ground" "LPoreField$Ground;") (by decide +kernel)) (fun _ h9 => h9) rfl dX6_many_143 ?_
  refine x_calli (va_runV (As := []) (rest := []) ⟨hx, hb, hml, hown, hts⟩ (c_X2_faults l D cy lo n (gw cy (hw cy w0 o P) (o + 50) T) (o + 1) G (by omega) (by omega) nd hG) (cwV 0 hts gX6_many_X2_faults rfl rfl rfl (by decide +kernel) ⟨Nat.le_of_ble_eq_true rfl, Nat.le_of_ble_eq_true rfl⟩) (preV hP hK (x_recv (ci := 2) (q := (RX2, TX2, 12)) hK.1 hP (by omega) (by omega) rfl (gw_0))) rfl rfl hl.1 rfl (lv_room (Nat.le_of_ble_eq_true rfl)) dX6_many_146 ⟨Nat.le_of_ble_eq_true rfl, Nat.le_of_ble_eq_true rfl⟩) hS (fun H locs hP hS => ?_)
  exact W.iret (v := (m_faults G 16)) hx hb hr (fun tE ht hW => ⟨⟨(m_faults G 16), (), rfl, rfl, x_at ht (hP)⟩, hS.F ht⟩) hS.2.2 dX6_many_149

set_option maxRecDepth 100000 in
set_option maxHeartbeats 4000000 in
/-- many, 14 -/
theorem c_X6_many_14 (l : Launch) (D : va_G) (cy : Nat → ClassId) (lo n : Nat) (w0 : Nat → va_E) (o : Nat) (G T P : Mem) (ho1 : lo ≤ o) (ho2 : o + 118 ≤ lo + n) (nd : Nat) (hG : GI nd G)  : Met l yX6_many wsX6_many ({ frames := 2, cells := 0, slots := 0, locals := 43 }) (PcW D cy lo n (gw cy (gw cy (hw cy w0 o P) (o + 50) T) (o + 1) G) [.ref o, .int (14 : Int32)]) (QiW D lo n (gw cy (gw cy (hw cy w0 o P) (o + 50) T) (o + 1) G) (m_many G P 14)) 0 0 (fun q : Nat => lo ≤ q) := by
  refine Met.ofW (cc := cX6_many) (maxL := 2) (ret := (some .int)) (by decide) rfl ?_
  intro p e s m args below meth c s₁ B hml hv
  obtain ⟨rfl, hP, hK, hS⟩ := x_entry hv
  have hx := B.exec
  have hb := B.bytes
  have hr := B.returns
  have hts := atoms_spec (ws := wsX6_many) B.pre
  have hown : s.vm.findClass RX6 = some m.cls := findClass_of_methodNamed B.named
  have hlocks := B.notSynchronized
  have iX0 : ∀ w ∈ u_ws RX0 TX0 8, w ∈ wsX6_many := by decide +kernel
  have iX6 : ∀ w ∈ u_ws RX6 TX6 11, w ∈ wsX6_many := by decide +kernel
  have hl := lv_entry ([.ref o, .int (14 : Int32)]) (n := 2) (Nat.le_of_ble_eq_true rfl)
  rw [lg_entry_eq]
  generalize (lg_sl ([.ref o, .int (14 : Int32)]) ++ List.replicate (2 - (lg_sl ([.ref o, .int (14 : Int32)])).length) Slot.unset).toArray = ls at hl ⊢
  have hl : lv_has ls 2 [(0, .ref o), (1, .int (14 : Int32))] := hl
  refine lv_iload_n hx hb dX6_many_0 rfl (lv_at hl 1 rfl) ?_
  refine lv_iconst (v := 0) hx hb dX6_many_1 (by decide) ?_
  refine lv_bipush (v := 14) hx hb dX6_many_2 (by decide) ?_
  refine x_callv (va_runS (As := [.int (14 : Int32), .int (0 : Int32), .int (14 : Int32)]) (rest := []) ⟨hx, hb, hml, hown, hts⟩ (c_X6_needWithin l D cy lo n (gw cy (gw cy (hw cy w0 o P) (o + 50) T) (o + 1) G) (14 : Int32) (0 : Int32) (14 : Int32) ((br_le (show (0 : Int32) = nI 0 from rfl) (show (14 : Int32) = nI 14 from rfl) (by omega) (by omega)).mpr (by omega)) ((br_le (show (14 : Int32) = nI 14 from rfl) (show (14 : Int32) = nI 14 from rfl) (by omega) (by omega)).mpr (by omega))) (va_cwS 3 hts gX6_many_X6_needWithin rfl rfl rfl (by decide +kernel) ⟨Nat.le_of_ble_eq_true rfl, Nat.le_of_ble_eq_true rfl⟩) (preS hP hK) rfl rfl hl.1 rfl (lv_room (Nat.le_of_ble_eq_true rfl)) dX6_many_4 ⟨Nat.le_of_ble_eq_true rfl, Nat.le_of_ble_eq_true rfl⟩) hS (fun H locs hP hS => ?_)
  refine lv_iload_n hx hb dX6_many_7 rfl (lv_at hl 1 rfl) ?_
  refine lv_tableOut (tgt := 150) hx hb dX6_many_8 (by decide) (by decide) ?_
  refine lv_aload_n hx hb dX6_many_150 rfl (lv_at hl 0 rfl) ?_
  refine x_get (ref := RX6) (C := RX6) (T := TX6) (N := 11) (ci := 6) (v := .ref (o + 101)) hx hb hts iX6 hown hK.1 hP (by omega) (by omega) (((gw_out (by omega)).trans ((gw_out (by omega)).trans (hw_0)))) rfl 4 (by decide) (hts (.fieldLink RX6 34 "PoreField" "booking" "LPoreField$Booking;") (by decide +kernel)) (fun _ h9 => h9) rfl dX6_many_151 ?_
  refine x_get (ref := RX0) (C := RX0) (T := TX0) (N := 8) (ci := 0) (v := .int (P 101 7)) hx hb hts iX0 hown hK.1 hP (by omega) (by omega) (((gw_out (by omega)).trans ((gw_out (by omega)).trans (hw_101)))) rfl 7 (by decide) (hts (.fieldLink RX6 184 "PoreField$Booking" "count" "I") (by decide +kernel)) (fun _ h9 => h9) rfl dX6_many_154 ?_
  exact W.iret (v := (P 101 7)) hx hb hr (fun tE ht hW => ⟨⟨(P 101 7), (), rfl, rfl, x_at ht (hP)⟩, hS.F ht⟩) hS.2.2 dX6_many_157

set_option maxRecDepth 100000 in
set_option maxHeartbeats 4000000 in
/-- many -/
theorem c_X6_many (l : Launch) (D : va_G) (cy : Nat → ClassId) (lo n : Nat) (w0 : Nat → va_E) (o : Nat) (G T P : Mem) (ho1 : lo ≤ o) (ho2 : o + 118 ≤ lo + n) (nd : Nat) (hG : GI nd G) (k : Nat) (hk : k < 15) : Met l yX6_many wsX6_many ({ frames := 2, cells := 0, slots := 0, locals := 43 }) (PcW D cy lo n (gw cy (gw cy (hw cy w0 o P) (o + 50) T) (o + 1) G) [.ref o, .int (nI k)]) (QiW D lo n (gw cy (gw cy (hw cy w0 o P) (o + 50) T) (o + 1) G) (m_many G P k)) 0 0 (fun q : Nat => lo ≤ q) := by
  match k, hk with
  | 0, _ => exact c_X6_many_0 l D cy lo n w0 o G T P ho1 ho2 nd hG
  | 1, _ => exact c_X6_many_1 l D cy lo n w0 o G T P ho1 ho2 nd hG
  | 2, _ => exact c_X6_many_2 l D cy lo n w0 o G T P ho1 ho2 nd hG
  | 3, _ => exact c_X6_many_3 l D cy lo n w0 o G T P ho1 ho2 nd hG
  | 4, _ => exact c_X6_many_4 l D cy lo n w0 o G T P ho1 ho2 nd hG
  | 5, _ => exact c_X6_many_5 l D cy lo n w0 o G T P ho1 ho2 nd hG
  | 6, _ => exact c_X6_many_6 l D cy lo n w0 o G T P ho1 ho2 nd hG
  | 7, _ => exact c_X6_many_7 l D cy lo n w0 o G T P ho1 ho2 nd hG
  | 8, _ => exact c_X6_many_8 l D cy lo n w0 o G T P ho1 ho2 nd hG
  | 9, _ => exact c_X6_many_9 l D cy lo n w0 o G T P ho1 ho2 nd hG
  | 10, _ => exact c_X6_many_10 l D cy lo n w0 o G T P ho1 ho2 nd hG
  | 11, _ => exact c_X6_many_11 l D cy lo n w0 o G T P ho1 ho2 nd hG
  | 12, _ => exact c_X6_many_12 l D cy lo n w0 o G T P ho1 ho2 nd hG
  | 13, _ => exact c_X6_many_13 l D cy lo n w0 o G T P ho1 ho2 nd hG
  | 14, _ => exact c_X6_many_14 l D cy lo n w0 o G T P ho1 ho2 nd hG
  | k + 15, h => exact absurd h (by omega)

set_option maxRecDepth 100000 in
set_option maxHeartbeats 4000000 in
/-- mayLift -/
theorem c_X6_mayLift (l : Launch) (D : va_G) (cy : Nat → ClassId) (lo n : Nat) (w0 : Nat → va_E) (o : Nat) (G T P : Mem) (ho1 : lo ≤ o) (ho2 : o + 118 ≤ lo + n) (i : Nat) (hi : i < 3) : Met l yX6_mayLift wsX6_mayLift ({ frames := 1, cells := 0, slots := 0, locals := 24 }) (PcW D cy lo n (gw cy (gw cy (hw cy w0 o P) (o + 50) T) (o + 1) G) [.ref o, .int (nI i)]) (QiW D lo n (gw cy (gw cy (hw cy w0 o P) (o + 50) T) (o + 1) G) (m_may2 G P i)) 0 0 (fun q : Nat => lo ≤ q) := by
  refine Met.ofW (cc := cX6_mayLift) (maxL := 3) (ret := (some .int)) (by decide) rfl ?_
  intro p e s m args below meth c s₁ B hml hv
  obtain ⟨rfl, hP, hK, hS⟩ := x_entry hv
  have hx := B.exec
  have hb := B.bytes
  have hr := B.returns
  have hts := atoms_spec (ws := wsX6_mayLift) B.pre
  have hown : s.vm.findClass RX6 = some m.cls := findClass_of_methodNamed B.named
  have hlocks := B.notSynchronized
  have iX2 : ∀ w ∈ u_ws RX2 TX2 12, w ∈ wsX6_mayLift := by decide +kernel
  have iX3 : ∀ w ∈ u_ws RX3 TX3 4, w ∈ wsX6_mayLift := by decide +kernel
  have iX6 : ∀ w ∈ u_ws RX6 TX6 11, w ∈ wsX6_mayLift := by decide +kernel
  have hl := lv_entry ([.ref o, .int (nI i)]) (n := 3) (Nat.le_of_ble_eq_true rfl)
  rw [lg_entry_eq]
  generalize (lg_sl ([.ref o, .int (nI i)]) ++ List.replicate (3 - (lg_sl ([.ref o, .int (nI i)])).length) Slot.unset).toArray = ls at hl ⊢
  have hl : lv_has ls 3 [(0, .ref o), (1, .int (nI i))] := hl
  refine lv_iload_n hx hb dX6_mayLift_0 rfl (lv_at hl 1 rfl) ?_
  refine lv_iconst (v := 3) hx hb dX6_mayLift_1 (by decide) ?_
  refine x_callv (va_runS (As := [.int (nI i), .int (3 : Int32)]) (rest := []) ⟨hx, hb, hml, hown, hts⟩ (c_X6_needIndex l D cy lo n (gw cy (gw cy (hw cy w0 o P) (o + 50) T) (o + 1) G) i 3 (by omega) (by omega) (nI i) (3 : Int32) rfl rfl) (va_cwS 2 hts gX6_mayLift_X6_needIndex rfl rfl rfl (by decide +kernel) ⟨Nat.le_of_ble_eq_true rfl, Nat.le_of_ble_eq_true rfl⟩) (preS hP hK) rfl rfl hl.1 rfl (lv_room (Nat.le_of_ble_eq_true rfl)) dX6_mayLift_2 ⟨Nat.le_of_ble_eq_true rfl, Nat.le_of_ble_eq_true rfl⟩) hS (fun H locs hP hS => ?_)
  refine lv_aload_n hx hb dX6_mayLift_5 rfl (lv_at hl 0 rfl) ?_
  refine x_get (ref := RX6) (C := RX6) (T := TX6) (N := 11) (ci := 6) (v := .ref (o + 100)) hx hb hts iX6 hown hK.1 hP (by omega) (by omega) (((gw_out (by omega)).trans ((gw_out (by omega)).trans (hw_0)))) rfl 3 (by decide) (hts (.fieldLink RX6 27 "PoreField" "partners" "[LPoreField$Partner;") (by decide +kernel)) (fun _ h9 => h9) rfl dX6_mayLift_6 ?_
  refine lv_iload_n hx hb dX6_mayLift_9 rfl (lv_at hl 1 rfl) ?_
  refine x_aald (b := (o + (115 + i))) hx hb hK.1 hP (by omega) (by omega) 4 (((gw_out (by omega)).trans ((gw_out (by omega)).trans (hw_100)))) rfl (cl_of_nI (i := i) rfl (by omega)) rfl (vp_in_of_nI (i := i) rfl (by omega) (by omega)) dX6_mayLift_10 ?_
  refine lv_astore_n (lv' := [(2, .ref (o + (115 + i))), (0, .ref o), (1, .int (nI i))]) hx hb dX6_mayLift_11 rfl hl (by decide) rfl (fun ls hl => ?_)
  refine lv_aload_n hx hb dX6_mayLift_12 rfl (lv_at hl 1 rfl) ?_
  refine x_get (ref := RX6) (C := RX6) (T := TX6) (N := 11) (ci := 6) (v := .ref (o + 1)) hx hb hts iX6 hown hK.1 hP (by omega) (by omega) (((gw_out (by omega)).trans ((gw_out (by omega)).trans (hw_0)))) rfl 0 (by decide) (hts (.fieldLink RX6 10 "PoreField" "ground" "LPoreField$Ground;") (by decide +kernel)) (fun _ h9 => h9) rfl dX6_mayLift_13 ?_
  refine x_get (ref := RX2) (C := RX2) (T := TX2) (N := 12) (ci := 2) (v := .int (G 0 6)) hx hb hts iX2 hown hK.1 hP (by omega) (by omega) (gw_0) rfl 6 (by decide) (hts (.fieldLink RX6 134 "PoreField$Ground" "tankHas" "I") (by decide +kernel)) (fun _ h9 => h9) rfl dX6_mayLift_16 ?_
  refine lv_aload_n hx hb dX6_mayLift_19 rfl (lv_at hl 0 rfl) ?_
  refine x_get (ref := RX3) (C := RX3) (T := TX3) (N := 4) (ci := 3) (v := .int (P (115 + i) 1)) hx hb hts iX3 hown hK.1 hP (by omega) (by omega) (((gw_out (by omega)).trans ((gw_out (by omega)).trans (hw_par (by omega))))) rfl 1 (by decide) (hts (.fieldLink RX6 217 "PoreField$Partner" "entitled" "I") (by decide +kernel)) (fun _ h9 => h9) rfl dX6_mayLift_20 ?_
  refine lv_aload_n hx hb dX6_mayLift_23 rfl (lv_at hl 0 rfl) ?_
  refine x_get (ref := RX3) (C := RX3) (T := TX3) (N := 4) (ci := 3) (v := .int (P (115 + i) 2)) hx hb hts iX3 hown hK.1 hP (by omega) (by omega) (((gw_out (by omega)).trans ((gw_out (by omega)).trans (hw_par (by omega))))) rfl 2 (by decide) (hts (.fieldLink RX6 173 "PoreField$Partner" "lifted" "I") (by decide +kernel)) (fun _ h9 => h9) rfl dX6_mayLift_24 ?_
  refine lv_isub hx hb dX6_mayLift_27 ?_
  refine lv_bipush (v := 20) hx hb dX6_mayLift_28 (by decide) ?_
  refine lv_iadd hx hb dX6_mayLift_30 ?_
  refine va_mmin (own := RX6) hx hb (hml.trans hl.1.symm) hown (hts (.methodLink RX6 167 Lib.Math.min.name) (by decide +kernel)) (hts (.static Lib.Math.min.name) (by decide +kernel)) (hts (.initialized "java/lang/Math") (by decide +kernel)) (hts (.code Lib.Math.min.name Lib.Math.min.code 2 (some .int)) (by decide +kernel)) (Nat.le_of_ble_eq_true rfl) (Nat.le_of_ble_eq_true rfl) (Nat.zero_le _) (Nat.zero_le _) dX6_mayLift_31 ?_
  exact W.iret (v := (jmin (G 0 6) (((P (115 + i) 1) - (P (115 + i) 2)) + (20 : Int32)))) hx hb hr (fun tE ht hW => ⟨⟨(jmin (G 0 6) (((P (115 + i) 1) - (P (115 + i) 2)) + (20 : Int32))), (), rfl, rfl, x_at ht (hP)⟩, hS.F ht⟩) hS.2.2 dX6_mayLift_34
