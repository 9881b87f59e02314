set_option maxRecDepth 100000 in
set_option maxHeartbeats 4000000 in
/-- wouldGive -/
theorem c_X6_wouldGive (l : Launch) (D : va_G) (cy : Nat → ClassId) (lo n : Nat) (w0 : Nat → va_E) (o : Nat) (G T P : Mem) (ho1 : lo ≤ o) (ho2 : o + 118 ≤ lo + n) (nd : Nat) (hG : GI nd G) (mo : Nat) (hm1 : 1 ≤ mo) (hm2 : mo ≤ 12) : Met l yX6_wouldGive wsX6_wouldGive ({ frames := 5, cells := 0, slots := 0, locals := 123 }) (PcW D cy lo n (gw cy (gw cy (hw cy w0 o P) (o + 50) T) (o + 1) G) [.ref o, .int (nI mo)]) (QiW D lo n (gw cy (gw cy (hw cy w0 o P) (o + 50) ((m_would nd mo G T).2)) (o + 1) G) ((m_would nd mo G T).1)) 0 0 (fun q : Nat => lo ≤ q) := by
  refine Met.ofW (cc := cX6_wouldGive) (maxL := 2) (ret := (some .int)) (by decide) rfl ?_
  intro p e s m args below meth c s₁ B hml hv
  obtain ⟨rfl, hP, hK, hS⟩ := x_entry hv
  have hx := B.exec
  have hb := B.bytes
  have hr := B.returns
  have hts := atoms_spec (ws := wsX6_wouldGive) B.pre
  have hown : s.vm.findClass RX6 = some m.cls := findClass_of_methodNamed B.named
  have hlocks := B.notSynchronized
  have iX6 : ∀ w ∈ u_ws RX6 TX6 11, w ∈ wsX6_wouldGive := by decide +kernel
  have hl := lv_entry ([.ref o, .int (nI mo)]) (n := 2) (Nat.le_of_ble_eq_true rfl)
  rw [lg_entry_eq]
  generalize (lg_sl ([.ref o, .int (nI mo)]) ++ List.replicate (2 - (lg_sl ([.ref o, .int (nI mo)])).length) Slot.unset).toArray = ls at hl ⊢
  have hl : lv_has ls 2 [(0, .ref o), (1, .int (nI mo))] := hl
  refine lv_iload_n hx hb dX6_wouldGive_0 rfl (lv_at hl 1 rfl) ?_
  refine lv_iconst (v := 1) hx hb dX6_wouldGive_1 (by decide) ?_
  refine lv_bipush (v := 12) hx hb dX6_wouldGive_2 (by decide) ?_
  refine x_callv (va_runS (As := [.int (nI mo), .int (1 : Int32), .int (12 : Int32)]) (rest := []) ⟨hx, hb, hml, hown, hts⟩ (c_X6_needWithin l D cy lo n (gw cy (gw cy (hw cy w0 o P) (o + 50) T) (o + 1) G) (nI mo) (1 : Int32) (12 : Int32) ((br_le (show (1 : Int32) = nI 1 from rfl) (show (nI mo) = nI mo from rfl) (by omega) (by omega)).mpr (by omega)) ((br_le (show (nI mo) = nI mo from rfl) (show (12 : Int32) = nI 12 from rfl) (by omega) (by omega)).mpr (by omega))) (va_cwS 3 hts gX6_wouldGive_X6_needWithin rfl rfl rfl (by decide +kernel) ⟨Nat.le_of_ble_eq_true rfl, Nat.le_of_ble_eq_true rfl⟩) (preS hP hK) rfl rfl hl.1 rfl (lv_room (Nat.le_of_ble_eq_true rfl)) dX6_wouldGive_4 ⟨Nat.le_of_ble_eq_true rfl, Nat.le_of_ble_eq_true rfl⟩) hS (fun H locs hP hS => ?_)
  refine lv_aload_n hx hb dX6_wouldGive_7 rfl (lv_at hl 0 rfl) ?_
  refine x_get (ref := RX6) (C := RX6) (T := TX6) (N := 11) (ci := 6) (v := .ref (o + 50)) hx hb hts iX6 hown hK.1 hP (by omega) (by omega) (((gw_out (by omega)).trans ((gw_out (by omega)).trans (hw_0)))) rfl 1 (by decide) (hts (.fieldLink RX6 16 "PoreField" "trial" "LPoreField$Ground;") (by decide +kernel)) (fun _ h9 => h9) rfl dX6_wouldGive_8 ?_
  refine lv_aload_n hx hb dX6_wouldGive_11 rfl (lv_at hl 0 rfl) ?_
  refine x_get (ref := RX6) (C := RX6) (T := TX6) (N := 11) (ci := 6) (v := .ref (o + 1)) hx hb hts iX6 hown hK.1 hP (by omega) (by omega) (((gw_out (by omega)).trans ((gw_out (by omega)).trans (hw_0)))) rfl 0 (by decide) (hts (.fieldLink RX6 10 "PoreField" "ground" "LPoreField$Ground;") (by decide +kernel)) (fun _ h9 => h9) rfl dX6_wouldGive_12 ?_
  have hP := gsw hP (by omega)
  refine x_callv (va_runV (As := [.ref (o + 1)]) (rest := []) ⟨hx, hb, hml, hown, hts⟩ (c_X2_take l D cy lo n (hw cy w0 o P) (o + 50) T (by omega) (by omega) (o + 1) G (by omega) (by omega) (by omega) nd hG) (cwV 1 hts gX6_wouldGive_X2_take rfl rfl rfl (by decide +kernel) ⟨Nat.le_of_ble_eq_true rfl, Nat.le_of_ble_eq_true rfl⟩) (preV hP hK (x_recv (ci := 2) (q := (RX2, TX2, 12)) hK.1 hP (by omega) (by omega) rfl (gw_0))) rfl rfl hl.1 rfl (lv_room (Nat.le_of_ble_eq_true rfl)) dX6_wouldGive_15 ⟨Nat.le_of_ble_eq_true rfl, Nat.le_of_ble_eq_true rfl⟩) hS (fun H locs hP hS => ?_)
  have hT : GI nd (m_take G T) := hG.take
  refine lv_aload_n hx hb dX6_wouldGive_18 rfl (lv_at hl 0 rfl) ?_
  refine x_get (ref := RX6) (C := RX6) (T := TX6) (N := 11) (ci := 6) (v := .ref (o + 50)) hx hb hts iX6 hown hK.1 hP (by omega) (by omega) (((gw_out (by omega)).trans ((gw_out (by omega)).trans (hw_0)))) rfl 1 (by decide) (hts (.fieldLink RX6 16 "PoreField" "trial" "LPoreField$Ground;") (by decide +kernel)) (fun _ h9 => h9) rfl dX6_wouldGive_19 ?_
  refine lv_iload_n hx hb dX6_wouldGive_22 rfl (lv_at hl 1 rfl) ?_
  refine x_calli (va_runV (As := [.int (nI mo)]) (rest := []) ⟨hx, hb, hml, hown, hts⟩ (c_X2_passMonths l D cy lo n (gw cy (hw cy w0 o P) (o + 1) G) (o + 50) (m_take G T) (by omega) (by omega) nd hT mo (by omega)) (cwV 1 hts gX6_wouldGive_X2_passMonths rfl rfl rfl (by decide +kernel) ⟨Nat.le_of_ble_eq_true rfl, Nat.le_of_ble_eq_true rfl⟩) (preV hP hK (x_recv (ci := 2) (q := (RX2, TX2, 12)) hK.1 hP (by omega) (by omega) rfl (gw_0))) rfl rfl hl.1 rfl (lv_room (Nat.le_of_ble_eq_true rfl)) dX6_wouldGive_23 ⟨Nat.le_of_ble_eq_true rfl, Nat.le_of_ble_eq_true rfl⟩) hS (fun H locs hP hS => ?_)
  have hT : GI nd (m_months nd mo (m_take G T)).2 := hT.cg cg_months
  have hP := gsw hP (by omega)
  exact W.iret (v := ((m_months nd mo (m_take G T)).1)) hx hb hr (fun tE ht hW => ⟨⟨((m_months nd mo (m_take G T)).1), (), rfl, rfl, x_at ht (hP)⟩, hS.F ht⟩) hS.2.2 dX6_wouldGive_26

set_option maxRecDepth 100000 in
set_option maxHeartbeats 4000000 in
/-- reservesOf -/
theorem c_X6_reservesOf (l : Launch) (D : va_G) (cy : Nat → ClassId) (lo n : Nat) (w0 : Nat → va_E) (o : Nat) (G T P : Mem) (ho1 : lo ≤ o) (ho2 : o + 118 ≤ lo + n) (nd : Nat) (hG : GI nd G) (k : Nat) (hk : k ≤ nd) (x : Int32) (hx0 : x = nI k) : Met l yX6_reservesOf wsX6_reservesOf ({ frames := 5, cells := 0, slots := 0, locals := 123 }) (PcW D cy lo n (gw cy (gw cy (hw cy w0 o P) (o + 50) T) (o + 1) G) [.ref o, .int x]) (QiW D lo n (gw cy (gw cy (hw cy w0 o P) (o + 50) ((m_res nd k G T).2)) (o + 1) G) ((m_res nd k G T).1)) 0 0 (fun q : Nat => lo ≤ q) := by
  refine Met.ofW (cc := cX6_reservesOf) (maxL := 3) (ret := (some .int)) (by decide) rfl ?_
  intro p e s m args below meth c s₁ B hml hv
  obtain ⟨rfl, hP, hK, hS⟩ := x_entry hv
  have hx := B.exec
  have hb := B.bytes
  have hr := B.returns
  have hts := atoms_spec (ws := wsX6_reservesOf) B.pre
  have hown : s.vm.findClass RX6 = some m.cls := findClass_of_methodNamed B.named
  have hlocks := B.notSynchronized
  have iX2 : ∀ w ∈ u_ws RX2 TX2 12, w ∈ wsX6_reservesOf := by decide +kernel
  have iX4 : ∀ w ∈ u_ws RX4 TX4 5, w ∈ wsX6_reservesOf := by decide +kernel
  have iX6 : ∀ w ∈ u_ws RX6 TX6 11, w ∈ wsX6_reservesOf := by decide +kernel
  have hl := lv_entry ([.ref o, .int x]) (n := 3) (Nat.le_of_ble_eq_true rfl)
  rw [lg_entry_eq]
  generalize (lg_sl ([.ref o, .int x]) ++ List.replicate (3 - (lg_sl ([.ref o, .int x])).length) Slot.unset).toArray = ls at hl ⊢
  have hl : lv_has ls 3 [(0, .ref o), (1, .int x)] := hl
  have hnd := hG.1
  refine lv_aload_n hx hb dX6_reservesOf_0 rfl (lv_at hl 0 rfl) ?_
  refine x_get (ref := RX6) (C := RX6) (T := TX6) (N := 11) (ci := 6) (v := .ref (o + 50)) hx hb hts iX6 hown hK.1 hP (by omega) (by omega) (((gw_out (by omega)).trans ((gw_out (by omega)).trans (hw_0)))) rfl 1 (by decide) (hts (.fieldLink RX6 16 "PoreField" "trial" "LPoreField$Ground;") (by decide +kernel)) (fun _ h9 => h9) rfl dX6_reservesOf_1 ?_
  refine lv_aload_n hx hb dX6_reservesOf_4 rfl (lv_at hl 0 rfl) ?_
  refine x_get (ref := RX6) (C := RX6) (T := TX6) (N := 11) (ci := 6) (v := .ref (o + 1)) hx hb hts iX6 hown hK.1 hP (by omega) (by omega) (((gw_out (by omega)).trans ((gw_out (by omega)).trans (hw_0)))) rfl 0 (by decide) (hts (.fieldLink RX6 10 "PoreField" "ground" "LPoreField$Ground;") (by decide +kernel)) (fun _ h9 => h9) rfl dX6_reservesOf_5 ?_
  have hP := gsw hP (by omega)
  refine x_callv (va_runV (As := [.ref (o + 1)]) (rest := []) ⟨hx, hb, hml, hown, hts⟩ (c_X2_take l D cy lo n (hw cy w0 o P) (o + 50) T (by omega) (by omega) (o + 1) G (by omega) (by omega) (by omega) nd hG) (cwV 1 hts gX6_reservesOf_X2_take rfl rfl rfl (by decide +kernel) ⟨Nat.le_of_ble_eq_true rfl, Nat.le_of_ble_eq_true rfl⟩) (preV hP hK (x_recv (ci := 2) (q := (RX2, TX2, 12)) hK.1 hP (by omega) (by omega) rfl (gw_0))) rfl rfl hl.1 rfl (lv_room (Nat.le_of_ble_eq_true rfl)) dX6_reservesOf_8 ⟨Nat.le_of_ble_eq_true rfl, Nat.le_of_ble_eq_true rfl⟩) hS (fun H locs hP hS => ?_)
  have hT : GI nd (m_take G T) := hG.take
  refine lv_aload_n hx hb dX6_reservesOf_11 rfl (lv_at hl 0 rfl) ?_
  refine x_get (ref := RX6) (C := RX6) (T := TX6) (N := 11) (ci := 6) (v := .ref (o + 50)) hx hb hts iX6 hown hK.1 hP (by omega) (by omega) (((gw_out (by omega)).trans ((gw_out (by omega)).trans (hw_0)))) rfl 1 (by decide) (hts (.fieldLink RX6 16 "PoreField" "trial" "LPoreField$Ground;") (by decide +kernel)) (fun _ h9 => h9) rfl dX6_reservesOf_12 ?_
  refine lv_ldcw (own := RX6) (v := 1000000) hx hb hown (hts (.constant RX6 313 (1000000)) (by decide +kernel)) dX6_reservesOf_15 ?_
  refine x_put (ty := .int) (ref := RX2) (C := RX2) (T := TX2) (N := 12) (ci := 2) (v := .int (1000000 : Int32)) hx hb hts iX2 tyX2 tyX2_ok nmX2 hown hK.1 hP hS (by omega) (by omega) (gw_0) rfl 5 (by decide) (hts (.fieldLink RX6 139 "PoreField$Ground" "tankSize" "I") (by decide +kernel)) (fun _ h9 => h9) rfl (by decide +kernel) rfl rfl (Nat.le_of_ble_eq_true rfl) dX6_reservesOf_18 (fun H locs hP hS => ?_)
  have hP := gp0 (j := 5) (v := (1000000 : Int32)) hP (rfl)
  have hT : GI nd (u2 (m_take G T) (0) 5 (1000000 : Int32)) := hT.u (by omega)
  rw [hx0] at hl
  refine lv_iload_n hx hb dX6_reservesOf_21 rfl (lv_at hl 1 rfl) ?_
  refine lv_istore_n (lv' := [(2, .int (nI k)), (0, .ref o), (1, .int (nI k))]) hx hb dX6_reservesOf_22 rfl hl (by decide) rfl (fun ls hl => ?_)
  have hP := gsw hP (by omega)
  have hloop23 : ∀ (i_r i : Nat) (H : Heap) (locs : List Loc) (ls : Array Slot), i + i_r = nd - k → lv_has ls 3 [(2, .int (nI (k + i))), (0, .ref o), (1, .int (nI k))] → va_P D vwCl (rl lo n (gw cy (gw cy (hw cy w0 o P) (o + 50) (m_resL k i (m_res0 G T))) (o + 1) G)) H → va_S (fun q : Nat => lo ≤ q) s.heap H locs → W p l e (headSpec wsX6_reservesOf ({ frames := 5, cells := 0, slots := 0, locals := 123 })).room s m (([.ref o, .int x] : List Value).toArray) below meth c H locs 0 0 (MQ below (QiW D lo n (gw cy (gw cy (hw cy w0 o P) (o + 50) ((m_res nd k G T).2)) (o + 1) G) ((m_res nd k G T).1)) (([.ref o, .int x] : List Value).toArray) s 0 0 (fun q : Nat => lo ≤ q)) (F0 m 23 ls []) := by
    intro i_r
    induction i_r with
    | zero =>
      intro i H locs ls hk23 hl hP hS
      obtain rfl : i = nd - k := by omega
      have hT : GI nd (m_resL k (nd - k) (m_res0 G T)) := gi_resL (gi_res0 hG) (nd - k)
      refine lv_iload_n hx hb dX6_reservesOf_23 rfl (lv_at hl 0 rfl) ?_
      refine lv_aload_n hx hb dX6_reservesOf_24 rfl (lv_at hl 1 rfl) ?_
      refine x_get (ref := RX6) (C := RX6) (T := TX6) (N := 11) (ci := 6) (v := .ref (o + 50)) hx hb hts iX6 hown hK.1 hP (by omega) (by omega) (((gw_out (by omega)).trans ((gw_out (by omega)).trans (hw_0)))) rfl 1 (by decide) (hts (.fieldLink RX6 16 "PoreField" "trial" "LPoreField$Ground;") (by decide +kernel)) (fun _ h9 => h9) rfl dX6_reservesOf_25 ?_
      refine x_get (ref := RX2) (C := RX2) (T := TX2) (N := 12) (ci := 2) (v := .int ((m_resL k (nd - k) (m_res0 G T)) 0 2)) hx hb hts iX2 hown hK.1 hP (by omega) (by omega) (((gw_out (by omega)).trans (gw_0))) rfl 2 (by decide) (hts (.fieldLink RX6 87 "PoreField$Ground" "drilled" "I") (by decide +kernel)) (fun _ h9 => h9) rfl dX6_reservesOf_28 ?_
      refine lv_icmp_ge (tgt := 53) hx hb dX6_reservesOf_31 (by decide) (fun _ => ?_) (fun c => absurd ((br_le (show ((m_resL k (nd - k) (m_res0 G T)) 0 2) = nI nd from hT.dr) (show (nI (k + (nd - k))) = nI (k + (nd - k)) from rfl) (by omega) (by omega)).mpr (by omega)) c)
      refine lv_aload_n hx hb dX6_reservesOf_53 rfl (lv_at hl 1 rfl) ?_
      refine x_get (ref := RX6) (C := RX6) (T := TX6) (N := 11) (ci := 6) (v := .ref (o + 50)) hx hb hts iX6 hown hK.1 hP (by omega) (by omega) (((gw_out (by omega)).trans ((gw_out (by omega)).trans (hw_0)))) rfl 1 (by decide) (hts (.fieldLink RX6 16 "PoreField" "trial" "LPoreField$Ground;") (by decide +kernel)) (fun _ h9 => h9) rfl dX6_reservesOf_54 ?_
      refine lv_bipush (v := 12) hx hb dX6_reservesOf_57 (by decide) ?_
      have hP := gsw hP (by omega)
      refine x_calli (va_runV (As := [.int (12 : Int32)]) (rest := []) ⟨hx, hb, hml, hown, hts⟩ (c_X2_passMonths l D cy lo n (gw cy (hw cy w0 o P) (o + 1) G) (o + 50) (m_resL k (nd - k) (m_res0 G T)) (by omega) (by omega) nd hT 12 (by omega)) (cwV 1 hts gX6_reservesOf_X2_passMonths rfl rfl rfl (by decide +kernel) ⟨Nat.le_of_ble_eq_true rfl, Nat.le_of_ble_eq_true rfl⟩) (preV hP hK (x_recv (ci := 2) (q := (RX2, TX2, 12)) hK.1 hP (by omega) (by omega) rfl (gw_0))) rfl rfl hl.1 rfl (lv_room (Nat.le_of_ble_eq_true rfl)) dX6_reservesOf_59 ⟨Nat.le_of_ble_eq_true rfl, Nat.le_of_ble_eq_true rfl⟩) hS (fun H locs hP hS => ?_)
      have hT : GI nd (m_months nd 12 (m_resL k (nd - k) (m_res0 G T))).2 := hT.cg cg_months
      have hP := gsw hP (by omega)
      exact W.iret (v := ((m_months nd 12 (m_resL k (nd - k) (m_res0 G T))).1)) hx hb hr (fun tE ht hW => ⟨⟨((m_months nd 12 (m_resL k (nd - k) (m_res0 G T))).1), (), rfl, rfl, x_at ht (hP)⟩, hS.F ht⟩) hS.2.2 dX6_reservesOf_62
    | succ i_r ih23 =>
      intro i H locs ls hk23 hl hP hS
      have hT : GI nd (m_resL k i (m_res0 G T)) := gi_resL (gi_res0 hG) i
      refine lv_iload_n hx hb dX6_reservesOf_23 rfl (lv_at hl 0 rfl) ?_
      refine lv_aload_n hx hb dX6_reservesOf_24 rfl (lv_at hl 1 rfl) ?_
      refine x_get (ref := RX6) (C := RX6) (T := TX6) (N := 11) (ci := 6) (v := .ref (o + 50)) hx hb hts iX6 hown hK.1 hP (by omega) (by omega) (((gw_out (by omega)).trans ((gw_out (by omega)).trans (hw_0)))) rfl 1 (by decide) (hts (.fieldLink RX6 16 "PoreField" "trial" "LPoreField$Ground;") (by decide +kernel)) (fun _ h9 => h9) rfl dX6_reservesOf_25 ?_
      refine x_get (ref := RX2) (C := RX2) (T := TX2) (N := 12) (ci := 2) (v := .int ((m_resL k i (m_res0 G T)) 0 2)) hx hb hts iX2 hown hK.1 hP (by omega) (by omega) (((gw_out (by omega)).trans (gw_0))) rfl 2 (by decide) (hts (.fieldLink RX6 87 "PoreField$Ground" "drilled" "I") (by decide +kernel)) (fun _ h9 => h9) rfl dX6_reservesOf_28 ?_
      refine lv_icmp_ge (tgt := 53) hx hb dX6_reservesOf_31 (by decide) (fun c => absurd ((br_le (show ((m_resL k i (m_res0 G T)) 0 2) = nI nd from hT.dr) (show (nI (k + i)) = nI (k + i) from rfl) (by omega) (by omega)).mp c) (by omega)) (fun _ => ?_)
      refine lv_aload_n hx hb dX6_reservesOf_34 rfl (lv_at hl 1 rfl) ?_
      refine x_get (ref := RX6) (C := RX6) (T := TX6) (N := 11) (ci := 6) (v := .ref (o + 50)) hx hb hts iX6 hown hK.1 hP (by omega) (by omega) (((gw_out (by omega)).trans ((gw_out (by omega)).trans (hw_0)))) rfl 1 (by decide) (hts (.fieldLink RX6 16 "PoreField" "trial" "LPoreField$Ground;") (by decide +kernel)) (fun _ h9 => h9) rfl dX6_reservesOf_35 ?_
      refine x_get (ref := RX2) (C := RX2) (T := TX2) (N := 12) (ci := 2) (v := .ref ((o + 50) + 2)) hx hb hts iX2 hown hK.1 hP (by omega) (by omega) (((gw_out (by omega)).trans (gw_0))) rfl 1 (by decide) (hts (.fieldLink RX6 97 "PoreField$Ground" "wells" "[LPoreField$Well;") (by decide +kernel)) (fun _ h9 => h9) rfl dX6_reservesOf_38 ?_
      refine lv_iload_n hx hb dX6_reservesOf_41 rfl (lv_at hl 0 rfl) ?_
      refine x_aald (b := ((o + 50) + (37 + 2 * (k + i)))) hx hb hK.1 hP (by omega) (by omega) 2 (((gw_out (by omega)).trans (gw_2))) rfl (cl_of_nI (i := (k + i)) rfl (by omega)) rfl (vp_in_of_nI (i := (k + i)) rfl (by omega) (by omega)) dX6_reservesOf_42 ?_
      refine lv_iconst (v := 0) hx hb dX6_reservesOf_43 (by decide) ?_
      have hP := gsw hP (by omega)
      refine x_put (ty := .int) (ref := RX4) (C := RX4) (T := TX4) (N := 5) (ci := 4) (v := .int (0 : Int32)) hx hb hts iX4 tyX4 tyX4_ok nmX4 hown hK.1 hP hS (by omega) (by omega) (gw_well (by omega)) rfl 2 (by decide) (hts (.fieldLink RX6 113 "PoreField$Well" "choke" "I") (by decide +kernel)) (fun _ h9 => h9) rfl (by decide +kernel) rfl rfl (Nat.le_of_ble_eq_true rfl) dX6_reservesOf_44 (fun H locs hP hS => ?_)
      have hP := gp (k := 37 + 2 * (k + i)) (j := 2) (v := (0 : Int32)) hP (by omega) (by rw [gEr_well (by omega)]; rfl)
      have hT : GI nd (u2 (m_resL k i (m_res0 G T)) (37 + 2 * (k + i)) 2 (0 : Int32)) := hT.u (by omega)
      refine lv_iinc (v := (nI ((k + i) + 1))) (lv' := [(2, .int (nI ((k + i) + 1))), (0, .ref o), (1, .int (nI k))]) hx hb dX6_reservesOf_47 hl (k := 0) rfl (nI_1 _) (by decide) rfl (fun ls hl => ?_)
      refine lv_goto (tgt := 23) hx hb dX6_reservesOf_50 (by decide) ?_
      have hP := gsw hP (by omega)
      exact ih23 (i + 1) _ _ _ (by omega) (lv_sub hl [0, 1, 2] rfl) (hP) hS
  exact hloop23 (nd - k) 0 _ _ _ (by omega) (lv_sub hl [0, 1, 2] rfl) (hP) hS

theorem best_s {nd w k : Nat} {G T : Mem} {i : Nat} : m_best nd w k G T (i + 1) = m_bS nd w k G i (m_best nd w k G T i) := rfl

set_option maxRecDepth 100000 in
set_option maxHeartbeats 4000000 in
/-- bestChoke -/
theorem c_X6_bestChoke (l : Launch) (D : va_G) (cy : Nat → ClassId) (lo n : Nat) (w0 : Nat → va_E) (o : Nat) (G T P : Mem) (ho1 : lo ≤ o) (ho2 : o + 118 ≤ lo + n) (nd : Nat) (hG : GI nd G) (w : Nat) (hwl : w < nd) (mo : Nat) (hm1 : 1 ≤ mo) (hm2 : mo ≤ 6) (hop : P (103 + 2 * w) 0 = 0) : Met l yX6_bestChoke wsX6_bestChoke ({ frames := 5, cells := 0, slots := 0, locals := 123 }) (PcW D cy lo n (gw cy (gw cy (hw cy w0 o P) (o + 50) T) (o + 1) G) [.ref o, .int (nI w), .int (nI mo)]) (QiW D lo n (gw cy (gw cy (hw cy w0 o P) (o + 50) ((m_best nd w mo G T 10).2)) (o + 1) G) ((m_best nd w mo G T 10).1.1)) 0 0 (fun q : Nat => lo ≤ q) := by
  refine Met.ofW (cc := cX6_bestChoke) (maxL := 7) (ret := (some .int)) (by decide) rfl ?_
  intro p e s m args below meth c s₁ B hml hv
  obtain ⟨rfl, hP, hK, hS⟩ := x_entry hv
  have hx := B.exec
  have hb := B.bytes
  have hr := B.returns
  have hts := atoms_spec (ws := wsX6_bestChoke) B.pre
  have hown : s.vm.findClass RX6 = some m.cls := findClass_of_methodNamed B.named
  have hlocks := B.notSynchronized
  have iX2 : ∀ w ∈ u_ws RX2 TX2 12, w ∈ wsX6_bestChoke := by decide +kernel
  have iX4 : ∀ w ∈ u_ws RX4 TX4 5, w ∈ wsX6_bestChoke := by decide +kernel
  have iX6 : ∀ w ∈ u_ws RX6 TX6 11, w ∈ wsX6_bestChoke := by decide +kernel
  have hl := lv_entry ([.ref o, .int (nI w), .int (nI mo)]) (n := 7) (Nat.le_of_ble_eq_true rfl)
  rw [lg_entry_eq]
  generalize (lg_sl ([.ref o, .int (nI w), .int (nI mo)]) ++ List.replicate (7 - (lg_sl ([.ref o, .int (nI w), .int (nI mo)])).length) Slot.unset).toArray = ls at hl ⊢
  have hl : lv_has ls 7 [(0, .ref o), (1, .int (nI w)), (2, .int (nI mo))] := hl
  have hnd := hG.1
  refine lv_iload_n hx hb dX6_bestChoke_0 rfl (lv_at hl 1 rfl) ?_
  refine lv_aload_n hx hb dX6_bestChoke_1 rfl (lv_at hl 0 rfl) ?_
  refine x_get (ref := RX6) (C := RX6) (T := TX6) (N := 11) (ci := 6) (v := .ref (o + 1)) hx hb hts iX6 hown hK.1 hP (by omega) (by omega) (((gw_out (by omega)).trans ((gw_out (by omega)).trans (hw_0)))) rfl 0 (by decide) (hts (.fieldLink RX6 10 "PoreField" "ground" "LPoreField$Ground;") (by decide +kernel)) (fun _ h9 => h9) rfl dX6_bestChoke_2 ?_
  refine x_get (ref := RX2) (C := RX2) (T := TX2) (N := 12) (ci := 2) (v := .int (G 0 2)) hx hb hts iX2 hown hK.1 hP (by omega) (by omega) (gw_0) rfl 2 (by decide) (hts (.fieldLink RX6 87 "PoreField$Ground" "drilled" "I") (by decide +kernel)) (fun _ h9 => h9) rfl dX6_bestChoke_5 ?_
  refine x_callv (va_runS (As := [.int (nI w), .int (G 0 2)]) (rest := []) ⟨hx, hb, hml, hown, hts⟩ (c_X6_needIndex l D cy lo n (gw cy (gw cy (hw cy w0 o P) (o + 50) T) (o + 1) G) w nd (by omega) (by omega) (nI w) (G 0 2) rfl hG.dr) (va_cwS 2 hts gX6_bestChoke_X6_needIndex rfl rfl rfl (by decide +kernel) ⟨Nat.le_of_ble_eq_true rfl, Nat.le_of_ble_eq_true rfl⟩) (preS hP hK) rfl rfl hl.1 rfl (lv_room (Nat.le_of_ble_eq_true rfl)) dX6_bestChoke_8 ⟨Nat.le_of_ble_eq_true rfl, Nat.le_of_ble_eq_true rfl⟩) hS (fun H locs hP hS => ?_)
  refine lv_iload_n hx hb dX6_bestChoke_11 rfl (lv_at hl 2 rfl) ?_
  refine lv_iconst (v := 1) hx hb dX6_bestChoke_12 (by decide) ?_
  refine lv_bipush (v := 6) hx hb dX6_bestChoke_13 (by decide) ?_
  refine x_callv (va_runS (As := [.int (nI mo), .int (1 : Int32), .int (6 : Int32)]) (rest := []) ⟨hx, hb, hml, hown, hts⟩ (c_X6_needWithin l D cy lo n (gw cy (gw cy (hw cy w0 o P) (o + 50) T) (o + 1) G) (nI mo) (1 : Int32) (6 : Int32) ((br_le (show (1 : Int32) = nI 1 from rfl) (show (nI mo) = nI mo from rfl) (by omega) (by omega)).mpr (by omega)) ((br_le (show (nI mo) = nI mo from rfl) (show (6 : Int32) = nI 6 from rfl) (by omega) (by omega)).mpr (by omega))) (va_cwS 3 hts gX6_bestChoke_X6_needWithin rfl rfl rfl (by decide +kernel) ⟨Nat.le_of_ble_eq_true rfl, Nat.le_of_ble_eq_true rfl⟩) (preS hP hK) rfl rfl hl.1 rfl (lv_room (Nat.le_of_ble_eq_true rfl)) dX6_bestChoke_15 ⟨Nat.le_of_ble_eq_true rfl, Nat.le_of_ble_eq_true rfl⟩) hS (fun H locs hP hS => ?_)
  refine lv_aload_n hx hb dX6_bestChoke_18 rfl (lv_at hl 0 rfl) ?_
  refine lv_iload_n hx hb dX6_bestChoke_19 rfl (lv_at hl 1 rfl) ?_
  refine x_callv (va_runV (As := [.int (nI w)]) (rest := []) ⟨hx, hb, hml, hown, hts⟩ (c_X6_needOpen l D cy lo n w0 o G T P (by omega) (by omega) w (by omega) hop) (cwV 1 hts gX6_bestChoke_X6_needOpen rfl rfl rfl (by decide +kernel) ⟨Nat.le_of_ble_eq_true rfl, Nat.le_of_ble_eq_true rfl⟩) (preV hP hK (x_recv (ci := 6) (q := (RX6, TX6, 11)) hK.1 hP (by omega) (by omega) rfl (((gw_out (by omega)).trans ((gw_out (by omega)).trans (hw_0)))))) rfl rfl hl.1 rfl (lv_room (Nat.le_of_ble_eq_true rfl)) dX6_bestChoke_20 ⟨Nat.le_of_ble_eq_true rfl, Nat.le_of_ble_eq_true rfl⟩) hS (fun H locs hP hS => ?_)
  refine lv_iconst (v := 0) hx hb dX6_bestChoke_23 (by decide) ?_
  refine lv_istore_n (lv' := [(3, .int (0 : Int32)), (0, .ref o), (1, .int (nI w)), (2, .int (nI mo))]) hx hb dX6_bestChoke_24 rfl hl (by decide) rfl (fun ls hl => ?_)
  refine lv_iconst (v := -1) hx hb dX6_bestChoke_25 (by decide) ?_
  refine lv_istore (lv' := [(4, .int (-1 : Int32)), (3, .int (0 : Int32)), (0, .ref o), (1, .int (nI w)), (2, .int (nI mo))]) hx hb dX6_bestChoke_26 hl (by decide) rfl (fun ls hl => ?_)
  refine lv_iconst (v := 0) hx hb dX6_bestChoke_28 (by decide) ?_
  refine lv_istore (lv' := [(5, .int (0 : Int32)), (4, .int (-1 : Int32)), (3, .int (0 : Int32)), (0, .ref o), (1, .int (nI w)), (2, .int (nI mo))]) hx hb dX6_bestChoke_29 hl (by decide) rfl (fun ls hl => ?_)
  have hloop31 : ∀ (ch_r ch : Nat) (H : Heap) (locs : List Loc) (ls : Array Slot), ch + ch_r = 10 → lv_has ls 7 [(5, .int (nI ch)), (4, .int ((m_best nd w mo G T ch).1.2)), (3, .int ((m_best nd w mo G T ch).1.1)), (0, .ref o), (1, .int (nI w)), (2, .int (nI mo))] → va_P D vwCl (rl lo n (gw cy (gw cy (hw cy w0 o P) (o + 50) ((m_best nd w mo G T ch).2)) (o + 1) G)) H → va_S (fun q : Nat => lo ≤ q) s.heap H locs → W p l e (headSpec wsX6_bestChoke ({ frames := 5, cells := 0, slots := 0, locals := 123 })).room s m (([.ref o, .int (nI w), .int (nI mo)] : List Value).toArray) below meth c H locs 0 0 (MQ below (QiW D lo n (gw cy (gw cy (hw cy w0 o P) (o + 50) ((m_best nd w mo G T 10).2)) (o + 1) G) ((m_best nd w mo G T 10).1.1)) (([.ref o, .int (nI w), .int (nI mo)] : List Value).toArray) s 0 0 (fun q : Nat => lo ≤ q)) (F0 m 31 ls []) := by
    intro ch_r
    induction ch_r with
    | zero =>
      intro ch H locs ls hk31 hl hP hS
      obtain rfl : ch = 10 := by omega
      refine lv_iload hx hb dX6_bestChoke_31 (lv_at hl 0 rfl) ?_
      refine lv_bipush (v := 9) hx hb dX6_bestChoke_33 (by decide) ?_
      refine lv_icmp_gt (tgt := 93) hx hb dX6_bestChoke_35 (by decide) (fun _ => ?_) (fun c => absurd ((br_lt (show (9 : Int32) = nI 9 from rfl) (show (nI 10) = nI 10 from rfl) (by omega) (by omega)).mpr (by omega)) c)
      refine lv_iload_n hx hb dX6_bestChoke_93 rfl (lv_at hl 2 rfl) ?_
      exact W.iret (v := ((m_best nd w mo G T 10).1.1)) hx hb hr (fun tE ht hW => ⟨⟨((m_best nd w mo G T 10).1.1), (), rfl, rfl, x_at ht (hP)⟩, hS.F ht⟩) hS.2.2 dX6_bestChoke_94
    | succ ch_r ih31 =>
      intro ch H locs ls hk31 hl hP hS
      refine lv_iload hx hb dX6_bestChoke_31 (lv_at hl 0 rfl) ?_
      refine lv_bipush (v := 9) hx hb dX6_bestChoke_33 (by decide) ?_
      refine lv_icmp_gt (tgt := 93) hx hb dX6_bestChoke_35 (by decide) (fun c => absurd ((br_lt (show (9 : Int32) = nI 9 from rfl) (show (nI ch) = nI ch from rfl) (by omega) (by omega)).mp c) (by omega)) (fun _ => ?_)
      refine lv_aload_n hx hb dX6_bestChoke_38 rfl (lv_at hl 3 rfl) ?_
      refine x_get (ref := RX6) (C := RX6) (T := TX6) (N := 11) (ci := 6) (v := .ref (o + 50)) hx hb hts iX6 hown hK.1 hP (by omega) (by omega) (((gw_out (by omega)).trans ((gw_out (by omega)).trans (hw_0)))) rfl 1 (by decide) (hts (.fieldLink RX6 16 "PoreField" "trial" "LPoreField$Ground;") (by decide +kernel)) (fun _ h9 => h9) rfl dX6_bestChoke_39 ?_
      refine lv_aload_n hx hb dX6_bestChoke_42 rfl (lv_at hl 3 rfl) ?_
      refine x_get (ref := RX6) (C := RX6) (T := TX6) (N := 11) (ci := 6) (v := .ref (o + 1)) hx hb hts iX6 hown hK.1 hP (by omega) (by omega) (((gw_out (by omega)).trans ((gw_out (by omega)).trans (hw_0)))) rfl 0 (by decide) (hts (.fieldLink RX6 10 "PoreField" "ground" "LPoreField$Ground;") (by decide +kernel)) (fun _ h9 => h9) rfl dX6_bestChoke_43 ?_
      have hP := gsw hP (by omega)
      refine x_callv (va_runV (As := [.ref (o + 1)]) (rest := []) ⟨hx, hb, hml, hown, hts⟩ (c_X2_take l D cy lo n (hw cy w0 o P) (o + 50) ((m_best nd w mo G T ch).2) (by omega) (by omega) (o + 1) G (by omega) (by omega) (by omega) nd hG) (cwV 1 hts gX6_bestChoke_X2_take rfl rfl rfl (by decide +kernel) ⟨Nat.le_of_ble_eq_true rfl, Nat.le_of_ble_eq_true rfl⟩) (preV hP hK (x_recv (ci := 2) (q := (RX2, TX2, 12)) hK.1 hP (by omega) (by omega) rfl (gw_0))) rfl rfl hl.1 rfl (lv_room (Nat.le_of_ble_eq_true rfl)) dX6_bestChoke_46 ⟨Nat.le_of_ble_eq_true rfl, Nat.le_of_ble_eq_true rfl⟩) hS (fun H locs hP hS => ?_)
      have hT : GI nd (m_take G ((m_best nd w mo G T ch).2)) := hG.take
      refine lv_aload_n hx hb dX6_bestChoke_49 rfl (lv_at hl 3 rfl) ?_
      refine x_get (ref := RX6) (C := RX6) (T := TX6) (N := 11) (ci := 6) (v := .ref (o + 50)) hx hb hts iX6 hown hK.1 hP (by omega) (by omega) (((gw_out (by omega)).trans ((gw_out (by omega)).trans (hw_0)))) rfl 1 (by decide) (hts (.fieldLink RX6 16 "PoreField" "trial" "LPoreField$Ground;") (by decide +kernel)) (fun _ h9 => h9) rfl dX6_bestChoke_50 ?_
      refine x_get (ref := RX2) (C := RX2) (T := TX2) (N := 12) (ci := 2) (v := .ref ((o + 50) + 2)) hx hb hts iX2 hown hK.1 hP (by omega) (by omega) (gw_0) rfl 1 (by decide) (hts (.fieldLink RX6 97 "PoreField$Ground" "wells" "[LPoreField$Well;") (by decide +kernel)) (fun _ h9 => h9) rfl dX6_bestChoke_53 ?_
      refine lv_iload_n hx hb dX6_bestChoke_56 rfl (lv_at hl 4 rfl) ?_
      refine x_aald (b := ((o + 50) + (37 + 2 * w))) hx hb hK.1 hP (by omega) (by omega) 2 (gw_2) rfl (cl_of_nI (i := w) rfl (by omega)) rfl (vp_in_of_nI (i := w) rfl (by omega) (by omega)) dX6_bestChoke_57 ?_
      refine lv_iload hx hb dX6_bestChoke_58 (lv_at hl 0 rfl) ?_
      refine x_put (ty := .int) (ref := RX4) (C := RX4) (T := TX4) (N := 5) (ci := 4) (v := .int (nI ch)) hx hb hts iX4 tyX4 tyX4_ok nmX4 hown hK.1 hP hS (by omega) (by omega) (gw_well (by omega)) rfl 2 (by decide) (hts (.fieldLink RX6 113 "PoreField$Well" "choke" "I") (by decide +kernel)) (fun _ h9 => h9) rfl (by decide +kernel) rfl rfl (Nat.le_of_ble_eq_true rfl) dX6_bestChoke_60 (fun H locs hP hS => ?_)
      have hP := gp (k := 37 + 2 * w) (j := 2) (v := (nI ch)) hP (by omega) (by rw [gEr_well (by omega)]; rfl)
      have hT : GI nd (u2 (m_take G ((m_best nd w mo G T ch).2)) (37 + 2 * w) 2 (nI ch)) := hT.u (by omega)
      refine lv_aload_n hx hb dX6_bestChoke_63 rfl (lv_at hl 3 rfl) ?_
      refine x_get (ref := RX6) (C := RX6) (T := TX6) (N := 11) (ci := 6) (v := .ref (o + 50)) hx hb hts iX6 hown hK.1 hP (by omega) (by omega) (((gw_out (by omega)).trans ((gw_out (by omega)).trans (hw_0)))) rfl 1 (by decide) (hts (.fieldLink RX6 16 "PoreField" "trial" "LPoreField$Ground;") (by decide +kernel)) (fun _ h9 => h9) rfl dX6_bestChoke_64 ?_
      refine lv_iload_n hx hb dX6_bestChoke_67 rfl (lv_at hl 5 rfl) ?_
      refine x_calli (va_runV (As := [.int (nI mo)]) (rest := []) ⟨hx, hb, hml, hown, hts⟩ (c_X2_passMonths l D cy lo n (gw cy (hw cy w0 o P) (o + 1) G) (o + 50) (u2 (m_take G ((m_best nd w mo G T ch).2)) (37 + 2 * w) 2 (nI ch)) (by omega) (by omega) nd hT mo (by omega)) (cwV 1 hts gX6_bestChoke_X2_passMonths rfl rfl rfl (by decide +kernel) ⟨Nat.le_of_ble_eq_true rfl, Nat.le_of_ble_eq_true rfl⟩) (preV hP hK (x_recv (ci := 2) (q := (RX2, TX2, 12)) hK.1 hP (by omega) (by omega) rfl (gw_0))) rfl rfl hl.1 rfl (lv_room (Nat.le_of_ble_eq_true rfl)) dX6_bestChoke_68 ⟨Nat.le_of_ble_eq_true rfl, Nat.le_of_ble_eq_true rfl⟩) hS (fun H locs hP hS => ?_)
      have hT : GI nd (m_months nd mo (u2 (m_take G ((m_best nd w mo G T ch).2)) (37 + 2 * w) 2 (nI ch))).2 := hT.cg cg_months
      refine lv_istore (lv' := [(6, .int ((m_months nd mo (u2 (m_take G ((m_best nd w mo G T ch).2)) (37 + 2 * w) 2 (nI ch))).1)), (5, .int (nI ch)), (4, .int ((m_best nd w mo G T ch).1.2)), (3, .int ((m_best nd w mo G T ch).1.1)), (0, .ref o), (1, .int (nI w)), (2, .int (nI mo))]) hx hb dX6_bestChoke_71 hl (by decide) rfl (fun ls hl => ?_)
      refine lv_iload hx hb dX6_bestChoke_73 (lv_at hl 0 rfl) ?_
      refine lv_iload hx hb dX6_bestChoke_75 (lv_at hl 2 rfl) ?_
      refine lv_icmp_le (tgt := 87) hx hb dX6_bestChoke_77 (by decide) (fun c_77 => ?_) (fun c_77 => ?_)
      · refine lv_iinc (v := (nI (ch + 1))) (lv' := [(5, .int (nI (ch + 1))), (6, .int ((m_months nd mo (u2 (m_take G ((m_best nd w mo G T ch).2)) (37 + 2 * w) 2 (nI ch))).1)), (4, .int ((m_best nd w mo G T ch).1.2)), (3, .int ((m_best nd w mo G T ch).1.1)), (0, .ref o), (1, .int (nI w)), (2, .int (nI mo))]) hx hb dX6_bestChoke_87 hl (k := 1) rfl (nI_1 _) (by decide) rfl (fun ls hl => ?_)
        refine lv_goto (tgt := 31) hx hb dX6_bestChoke_90 (by decide) ?_
        have hP := gsw hP (by omega)
        have hst1 : (m_best nd w mo G T (ch + 1)).1.1 = ((m_best nd w mo G T ch).1.1) := by rw [best_s]; unfold m_bS m_bT; rw [if_pos c_77]
        have hst2 : (m_best nd w mo G T (ch + 1)).1.2 = ((m_best nd w mo G T ch).1.2) := by rw [best_s]; unfold m_bS m_bT; rw [if_pos c_77]
        have hst3 : (m_best nd w mo G T (ch + 1)).2 = (m_months nd mo (u2 (m_take G ((m_best nd w mo G T ch).2)) (37 + 2 * w) 2 (nI ch))).2 := by rw [best_s]; unfold m_bS m_bT; rw [if_pos c_77]
        have hl : lv_has ls 7 [(5, .int (nI (ch + 1))), (6, .int ((m_months nd mo (u2 (m_take G ((m_best nd w mo G T ch).2)) (37 + 2 * w) 2 (nI ch))).1)), (4, .int ((m_best nd w mo G T (ch + 1)).1.2)), (3, .int ((m_best nd w mo G T (ch + 1)).1.1)), (0, .ref o), (1, .int (nI w)), (2, .int (nI mo))] := by rw [hst1, hst2]; exact hl
        exact ih31 (ch + 1) _ _ _ (by omega) (lv_sub hl [0, 2, 3, 4, 5, 6] rfl) ((by rw [hst3]; exact hP)) hS
      · refine lv_iload hx hb dX6_bestChoke_80 (lv_at hl 0 rfl) ?_
        refine lv_istore (lv' := [(4, .int ((m_months nd mo (u2 (m_take G ((m_best nd w mo G T ch).2)) (37 + 2 * w) 2 (nI ch))).1)), (6, .int ((m_months nd mo (u2 (m_take G ((m_best nd w mo G T ch).2)) (37 + 2 * w) 2 (nI ch))).1)), (5, .int (nI ch)), (3, .int ((m_best nd w mo G T ch).1.1)), (0, .ref o), (1, .int (nI w)), (2, .int (nI mo))]) hx hb dX6_bestChoke_82 hl (by decide) rfl (fun ls hl => ?_)
        refine lv_iload hx hb dX6_bestChoke_84 (lv_at hl 2 rfl) ?_
        refine lv_istore_n (lv' := [(3, .int (nI ch)), (4, .int ((m_months nd mo (u2 (m_take G ((m_best nd w mo G T ch).2)) (37 + 2 * w) 2 (nI ch))).1)), (6, .int ((m_months nd mo (u2 (m_take G ((m_best nd w mo G T ch).2)) (37 + 2 * w) 2 (nI ch))).1)), (5, .int (nI ch)), (0, .ref o), (1, .int (nI w)), (2, .int (nI mo))]) hx hb dX6_bestChoke_86 rfl hl (by decide) rfl (fun ls hl => ?_)
        refine lv_iinc (v := (nI (ch + 1))) (lv' := [(5, .int (nI (ch + 1))), (3, .int (nI ch)), (4, .int ((m_months nd mo (u2 (m_take G ((m_best nd w mo G T ch).2)) (37 + 2 * w) 2 (nI ch))).1)), (6, .int ((m_months nd mo (u2 (m_take G ((m_best nd w mo G T ch).2)) (37 + 2 * w) 2 (nI ch))).1)), (0, .ref o), (1, .int (nI w)), (2, .int (nI mo))]) hx hb dX6_bestChoke_87 hl (k := 3) rfl (nI_1 _) (by decide) rfl (fun ls hl => ?_)
        refine lv_goto (tgt := 31) hx hb dX6_bestChoke_90 (by decide) ?_
        have hP := gsw hP (by omega)
        have hst1 : (m_best nd w mo G T (ch + 1)).1.1 = (nI ch) := by rw [best_s]; unfold m_bS m_bT; rw [if_neg c_77]
        have hst2 : (m_best nd w mo G T (ch + 1)).1.2 = ((m_months nd mo (u2 (m_take G ((m_best nd w mo G T ch).2)) (37 + 2 * w) 2 (nI ch))).1) := by rw [best_s]; unfold m_bS m_bT; rw [if_neg c_77]
        have hst3 : (m_best nd w mo G T (ch + 1)).2 = (m_months nd mo (u2 (m_take G ((m_best nd w mo G T ch).2)) (37 + 2 * w) 2 (nI ch))).2 := by rw [best_s]; unfold m_bS m_bT; rw [if_neg c_77]
        have hl : lv_has ls 7 [(5, .int (nI (ch + 1))), (3, .int ((m_best nd w mo G T (ch + 1)).1.1)), (4, .int ((m_best nd w mo G T (ch + 1)).1.2)), (6, .int ((m_months nd mo (u2 (m_take G ((m_best nd w mo G T ch).2)) (37 + 2 * w) 2 (nI ch))).1)), (0, .ref o), (1, .int (nI w)), (2, .int (nI mo))] := by rw [hst1, hst2]; exact hl
        exact ih31 (ch + 1) _ _ _ (by omega) (lv_sub hl [0, 2, 1, 4, 5, 6] rfl) ((by rw [hst3]; exact hP)) hS
  exact hloop31 10 0 _ _ _ (by omega) (lv_sub hl [0, 1, 2, 3, 4, 5] rfl) (hP) hS

theorem GI.shut {nd : Nat} {M : Mem} (h : GI nd M) {ce : Nat} (hc : ce < 16) {b x : Int32} (hx : x = 0 ∨ x = 1) : GI nd (m_shut M ce b x) := by
  have key : ∀ j, (j = 2 ∨ j = 3) → GI nd (u2 M (5 + 2 * ce) j x) := by
    intro j hj
    refine ⟨h.1, by rw [u2_ne (by omega)]; exact h.2.1, fun w hw => ?_, fun i hi => ?_⟩
    · have e : u2 M (5 + 2 * ce) j x (37 + 2 * w) 1 = M (37 + 2 * w) 1 := u2_ne (by omega)
      unfold cix
      rw [e]
      exact h.2.2.1 w hw
    · have h0 := h.2.2.2 i hi
      refine ⟨by rw [u2_ne (by omega)]; exact h0.1, ?_, ?_⟩
      · by_cases q : 5 + 2 * i = 5 + 2 * ce ∧ 2 = j
        · rw [show u2 M (5 + 2 * ce) j x (5 + 2 * i) 2 = x by unfold u2; rw [if_pos q]]
          exact hx
        · rw [u2_ne q]
          exact h0.2.1
      · by_cases q : 5 + 2 * i = 5 + 2 * ce ∧ 3 = j
        · rw [show u2 M (5 + 2 * ce) j x (5 + 2 * i) 3 = x by unfold u2; rw [if_pos q]]
          exact hx
        · rw [u2_ne q]
          exact h0.2.2
  unfold m_shut
  split
  · exact key 3 (Or.inr rfl)
  · exact key 2 (Or.inl rfl)

set_option maxRecDepth 100000 in
set_option maxHeartbeats 4000000 in
/-- keptBack -/
theorem c_X6_keptBack (l : Launch) (D : va_G) (cy : Nat → ClassId) (lo n : Nat) (w0 : Nat → va_E) (o : Nat) (G T P : Mem) (ho1 : lo ≤ o) (ho2 : o + 118 ≤ lo + n) (nd : Nat) (hG : GI nd G) (ce : Nat) (hc : ce < 16) (b : Int32) (mo : Nat) (hm1 : 1 ≤ mo) (hm2 : mo ≤ 6) (hnb0 : ¬ m_nb ce b = -1) : Met l yX6_keptBack wsX6_keptBack ({ frames := 5, cells := 0, slots := 0, locals := 123 }) (PcW D cy lo n (gw cy (gw cy (hw cy w0 o P) (o + 50) T) (o + 1) G) [.ref o, .int (nI ce), .int b, .int (nI mo)]) (QiW D lo n (gw cy (gw cy (hw cy w0 o P) (o + 50) ((m_kept nd ce b mo G T).2)) (o + 1) G) ((m_kept nd ce b mo G T).1)) 0 0 (fun q : Nat => lo ≤ q) := by
  refine Met.ofW (cc := cX6_keptBack) (maxL := 5) (ret := (some .int)) (by decide) rfl ?_
  intro p e s m args below meth c s₁ B hml hv
  obtain ⟨rfl, hP, hK, hS⟩ := x_entry hv
  have hx := B.exec
  have hb := B.bytes
  have hr := B.returns
  have hts := atoms_spec (ws := wsX6_keptBack) B.pre
  have hown : s.vm.findClass RX6 = some m.cls := findClass_of_methodNamed B.named
  have hlocks := B.notSynchronized
  have iX2 : ∀ w ∈ u_ws RX2 TX2 12, w ∈ wsX6_keptBack := by decide +kernel
  have iX6 : ∀ w ∈ u_ws RX6 TX6 11, w ∈ wsX6_keptBack := by decide +kernel
  have hl := lv_entry ([.ref o, .int (nI ce), .int b, .int (nI mo)]) (n := 5) (Nat.le_of_ble_eq_true rfl)
  rw [lg_entry_eq]
  generalize (lg_sl ([.ref o, .int (nI ce), .int b, .int (nI mo)]) ++ List.replicate (5 - (lg_sl ([.ref o, .int (nI ce), .int b, .int (nI mo)])).length) Slot.unset).toArray = ls at hl ⊢
  have hl : lv_has ls 5 [(0, .ref o), (1, .int (nI ce)), (2, .int b), (3, .int (nI mo))] := hl
  refine lv_iload_n hx hb dX6_keptBack_0 rfl (lv_at hl 1 rfl) ?_
  refine lv_iload_n hx hb dX6_keptBack_1 rfl (lv_at hl 2 rfl) ?_
  refine x_callv (va_runS (As := [.int (nI ce), .int b]) (rest := []) ⟨hx, hb, hml, hown, hts⟩ (c_X6_needNeighbour l D cy lo n (gw cy (gw cy (hw cy w0 o P) (o + 50) T) (o + 1) G) ce (by omega) b hnb0) (va_cwS 2 hts gX6_keptBack_X6_needNeighbour rfl rfl rfl (by decide +kernel) ⟨Nat.le_of_ble_eq_true rfl, Nat.le_of_ble_eq_true rfl⟩) (preS hP hK) rfl rfl hl.1 rfl (lv_room (Nat.le_of_ble_eq_true rfl)) dX6_keptBack_2 ⟨Nat.le_of_ble_eq_true rfl, Nat.le_of_ble_eq_true rfl⟩) hS (fun H locs hP hS => ?_)
  refine lv_iload_n hx hb dX6_keptBack_5 rfl (lv_at hl 3 rfl) ?_
  refine lv_iconst (v := 1) hx hb dX6_keptBack_6 (by decide) ?_
  refine lv_bipush (v := 6) hx hb dX6_keptBack_7 (by decide) ?_
  refine x_callv (va_runS (As := [.int (nI mo), .int (1 : Int32), .int (6 : Int32)]) (rest := []) ⟨hx, hb, hml, hown, hts⟩ (c_X6_needWithin l D cy lo n (gw cy (gw cy (hw cy w0 o P) (o + 50) T) (o + 1) G) (nI mo) (1 : Int32) (6 : Int32) ((br_le (show (1 : Int32) = nI 1 from rfl) (show (nI mo) = nI mo from rfl) (by omega) (by omega)).mpr (by omega)) ((br_le (show (nI mo) = nI mo from rfl) (show (6 : Int32) = nI 6 from rfl) (by omega) (by omega)).mpr (by omega))) (va_cwS 3 hts gX6_keptBack_X6_needWithin rfl rfl rfl (by decide +kernel) ⟨Nat.le_of_ble_eq_true rfl, Nat.le_of_ble_eq_true rfl⟩) (preS hP hK) rfl rfl hl.1 rfl (lv_room (Nat.le_of_ble_eq_true rfl)) dX6_keptBack_9 ⟨Nat.le_of_ble_eq_true rfl, Nat.le_of_ble_eq_true rfl⟩) hS (fun H locs hP hS => ?_)
  refine lv_aload_n hx hb dX6_keptBack_12 rfl (lv_at hl 0 rfl) ?_
  refine x_get (ref := RX6) (C := RX6) (T := TX6) (N := 11) (ci := 6) (v := .ref (o + 1)) hx hb hts iX6 hown hK.1 hP (by omega) (by omega) (((gw_out (by omega)).trans ((gw_out (by omega)).trans (hw_0)))) rfl 0 (by decide) (hts (.fieldLink RX6 10 "PoreField" "ground" "LPoreField$Ground;") (by decide +kernel)) (fun _ h9 => h9) rfl dX6_keptBack_13 ?_
  refine x_get (ref := RX2) (C := RX2) (T := TX2) (N := 12) (ci := 2) (v := .ref ((o + 1) + 1)) hx hb hts iX2 hown hK.1 hP (by omega) (by omega) (gw_0) rfl 0 (by decide) (hts (.fieldLink RX6 59 "PoreField$Ground" "cells" "[LPoreField$Cell;") (by decide +kernel)) (fun _ h9 => h9) rfl dX6_keptBack_16 ?_
  refine lv_iload_n hx hb dX6_keptBack_19 rfl (lv_at hl 1 rfl) ?_
  refine x_aald (b := ((o + 1) + (5 + 2 * ce))) hx hb hK.1 hP (by omega) (by omega) 1 (gw_1) rfl (cl_of_nI (i := ce) rfl (by omega)) rfl (vp_in_of_nI (i := ce) rfl (by omega) (by omega)) dX6_keptBack_20 ?_
  refine lv_iload_n hx hb dX6_keptBack_21 rfl (lv_at hl 2 rfl) ?_
  refine x_calli (va_runV (As := [.int b]) (rest := []) ⟨hx, hb, hml, hown, hts⟩ (c_X1_isShut l D cy lo n (gw cy (hw cy w0 o P) (o + 50) T) (o + 1) G (by omega) (by omega) ce (by omega) b (hG.sh (by omega))) (cwV 1 hts gX6_keptBack_X1_isShut rfl rfl rfl (by decide +kernel) ⟨Nat.le_of_ble_eq_true rfl, Nat.le_of_ble_eq_true rfl⟩) (preV hP hK (x_recv (ci := 1) (q := (RX1, TX1, 4)) hK.1 hP (by omega) (by omega) rfl (gw_cell (by omega)))) rfl rfl hl.1 rfl (lv_room (Nat.le_of_ble_eq_true rfl)) dX6_keptBack_22 ⟨Nat.le_of_ble_eq_true rfl, Nat.le_of_ble_eq_true rfl⟩) hS (fun H locs hP hS => ?_)
  refine lv_if_ne (tgt := 30) hx hb dX6_keptBack_25 (by decide) (fun c_25 => ?_) (fun c_25 => ?_)
  · refine lv_aload_n hx hb dX6_keptBack_30 rfl (lv_at hl 0 rfl) ?_
    refine x_get (ref := RX6) (C := RX6) (T := TX6) (N := 11) (ci := 6) (v := .ref (o + 50)) hx hb hts iX6 hown hK.1 hP (by omega) (by omega) (((gw_out (by omega)).trans ((gw_out (by omega)).trans (hw_0)))) rfl 1 (by decide) (hts (.fieldLink RX6 16 "PoreField" "trial" "LPoreField$Ground;") (by decide +kernel)) (fun _ h9 => h9) rfl dX6_keptBack_31 ?_
    refine lv_aload_n hx hb dX6_keptBack_34 rfl (lv_at hl 0 rfl) ?_
    refine x_get (ref := RX6) (C := RX6) (T := TX6) (N := 11) (ci := 6) (v := .ref (o + 1)) hx hb hts iX6 hown hK.1 hP (by omega) (by omega) (((gw_out (by omega)).trans ((gw_out (by omega)).trans (hw_0)))) rfl 0 (by decide) (hts (.fieldLink RX6 10 "PoreField" "ground" "LPoreField$Ground;") (by decide +kernel)) (fun _ h9 => h9) rfl dX6_keptBack_35 ?_
    have hP := gsw hP (by omega)
    refine x_callv (va_runV (As := [.ref (o + 1)]) (rest := []) ⟨hx, hb, hml, hown, hts⟩ (c_X2_take l D cy lo n (hw cy w0 o P) (o + 50) T (by omega) (by omega) (o + 1) G (by omega) (by omega) (by omega) nd hG) (cwV 1 hts gX6_keptBack_X2_take rfl rfl rfl (by decide +kernel) ⟨Nat.le_of_ble_eq_true rfl, Nat.le_of_ble_eq_true rfl⟩) (preV hP hK (x_recv (ci := 2) (q := (RX2, TX2, 12)) hK.1 hP (by omega) (by omega) rfl (gw_0))) rfl rfl hl.1 rfl (lv_room (Nat.le_of_ble_eq_true rfl)) dX6_keptBack_38 ⟨Nat.le_of_ble_eq_true rfl, Nat.le_of_ble_eq_true rfl⟩) hS (fun H locs hP hS => ?_)
    have hT : GI nd (m_take G T) := hG.take
    refine lv_aload_n hx hb dX6_keptBack_41 rfl (lv_at hl 0 rfl) ?_
    refine x_get (ref := RX6) (C := RX6) (T := TX6) (N := 11) (ci := 6) (v := .ref (o + 50)) hx hb hts iX6 hown hK.1 hP (by omega) (by omega) (((gw_out (by omega)).trans ((gw_out (by omega)).trans (hw_0)))) rfl 1 (by decide) (hts (.fieldLink RX6 16 "PoreField" "trial" "LPoreField$Ground;") (by decide +kernel)) (fun _ h9 => h9) rfl dX6_keptBack_42 ?_
    refine lv_iload_n hx hb dX6_keptBack_45 rfl (lv_at hl 3 rfl) ?_
    refine x_calli (va_runV (As := [.int (nI mo)]) (rest := []) ⟨hx, hb, hml, hown, hts⟩ (c_X2_passMonths l D cy lo n (gw cy (hw cy w0 o P) (o + 1) G) (o + 50) (m_take G T) (by omega) (by omega) nd hT mo (by omega)) (cwV 1 hts gX6_keptBack_X2_passMonths rfl rfl rfl (by decide +kernel) ⟨Nat.le_of_ble_eq_true rfl, Nat.le_of_ble_eq_true rfl⟩) (preV hP hK (x_recv (ci := 2) (q := (RX2, TX2, 12)) hK.1 hP (by omega) (by omega) rfl (gw_0))) rfl rfl hl.1 rfl (lv_room (Nat.le_of_ble_eq_true rfl)) dX6_keptBack_46 ⟨Nat.le_of_ble_eq_true rfl, Nat.le_of_ble_eq_true rfl⟩) hS (fun H locs hP hS => ?_)
    have hT : GI nd (m_months nd mo (m_take G T)).2 := hT.cg cg_months
    refine lv_istore (lv' := [(4, .int ((m_months nd mo (m_take G T)).1)), (0, .ref o), (1, .int (nI ce)), (2, .int b), (3, .int (nI mo))]) hx hb dX6_keptBack_49 hl (by decide) rfl (fun ls hl => ?_)
    refine lv_aload_n hx hb dX6_keptBack_51 rfl (lv_at hl 1 rfl) ?_
    refine x_get (ref := RX6) (C := RX6) (T := TX6) (N := 11) (ci := 6) (v := .ref (o + 50)) hx hb hts iX6 hown hK.1 hP (by omega) (by omega) (((gw_out (by omega)).trans ((gw_out (by omega)).trans (hw_0)))) rfl 1 (by decide) (hts (.fieldLink RX6 16 "PoreField" "trial" "LPoreField$Ground;") (by decide +kernel)) (fun _ h9 => h9) rfl dX6_keptBack_52 ?_
    refine lv_aload_n hx hb dX6_keptBack_55 rfl (lv_at hl 1 rfl) ?_
    refine x_get (ref := RX6) (C := RX6) (T := TX6) (N := 11) (ci := 6) (v := .ref (o + 1)) hx hb hts iX6 hown hK.1 hP (by omega) (by omega) (((gw_out (by omega)).trans ((gw_out (by omega)).trans (hw_0)))) rfl 0 (by decide) (hts (.fieldLink RX6 10 "PoreField" "ground" "LPoreField$Ground;") (by decide +kernel)) (fun _ h9 => h9) rfl dX6_keptBack_56 ?_
    refine x_callv (va_runV (As := [.ref (o + 1)]) (rest := []) ⟨hx, hb, hml, hown, hts⟩ (c_X2_take l D cy lo n (hw cy w0 o P) (o + 50) ((m_months nd mo (m_take G T)).2) (by omega) (by omega) (o + 1) G (by omega) (by omega) (by omega) nd hG) (cwV 1 hts gX6_keptBack_X2_take rfl rfl rfl (by decide +kernel) ⟨Nat.le_of_ble_eq_true rfl, Nat.le_of_ble_eq_true rfl⟩) (preV hP hK (x_recv (ci := 2) (q := (RX2, TX2, 12)) hK.1 hP (by omega) (by omega) rfl (gw_0))) rfl rfl hl.1 rfl (lv_room (Nat.le_of_ble_eq_true rfl)) dX6_keptBack_59 ⟨Nat.le_of_ble_eq_true rfl, Nat.le_of_ble_eq_true rfl⟩) hS (fun H locs hP hS => ?_)
    have hT : GI nd (m_take G ((m_months nd mo (m_take G T)).2)) := hG.take
    refine lv_aload_n hx hb dX6_keptBack_62 rfl (lv_at hl 1 rfl) ?_
    refine x_get (ref := RX6) (C := RX6) (T := TX6) (N := 11) (ci := 6) (v := .ref (o + 50)) hx hb hts iX6 hown hK.1 hP (by omega) (by omega) (((gw_out (by omega)).trans ((gw_out (by omega)).trans (hw_0)))) rfl 1 (by decide) (hts (.fieldLink RX6 16 "PoreField" "trial" "LPoreField$Ground;") (by decide +kernel)) (fun _ h9 => h9) rfl dX6_keptBack_63 ?_
    refine x_get (ref := RX2) (C := RX2) (T := TX2) (N := 12) (ci := 2) (v := .ref ((o + 50) + 1)) hx hb hts iX2 hown hK.1 hP (by omega) (by omega) (gw_0) rfl 0 (by decide) (hts (.fieldLink RX6 59 "PoreField$Ground" "cells" "[LPoreField$Cell;") (by decide +kernel)) (fun _ h9 => h9) rfl dX6_keptBack_66 ?_
    refine lv_iload_n hx hb dX6_keptBack_69 rfl (lv_at hl 2 rfl) ?_
    refine x_aald (b := ((o + 50) + (5 + 2 * ce))) hx hb hK.1 hP (by omega) (by omega) 1 (gw_1) rfl (cl_of_nI (i := ce) rfl (by omega)) rfl (vp_in_of_nI (i := ce) rfl (by omega) (by omega)) dX6_keptBack_70 ?_
    refine lv_iload_n hx hb dX6_keptBack_71 rfl (lv_at hl 3 rfl) ?_
    refine lv_iconst (v := 0) hx hb dX6_keptBack_72 (by decide) ?_
    refine x_callv (va_runV (As := [.int b, .int (0 : Int32)]) (rest := []) ⟨hx, hb, hml, hown, hts⟩ (c_X1_shut l D cy lo n (gw cy (hw cy w0 o P) (o + 1) G) (o + 50) (m_take G ((m_months nd mo (m_take G T)).2)) (by omega) (by omega) ce (by omega) b (0 : Int32) (Or.inl rfl)) (cwV 2 hts gX6_keptBack_X1_shut rfl rfl rfl (by decide +kernel) ⟨Nat.le_of_ble_eq_true rfl, Nat.le_of_ble_eq_true rfl⟩) (preV hP hK (x_recv (ci := 1) (q := (RX1, TX1, 4)) hK.1 hP (by omega) (by omega) rfl (gw_cell (by omega)))) rfl rfl hl.1 rfl (lv_room (Nat.le_of_ble_eq_true rfl)) dX6_keptBack_73 ⟨Nat.le_of_ble_eq_true rfl, Nat.le_of_ble_eq_true rfl⟩) hS (fun H locs hP hS => ?_)
    have hT : GI nd (m_shut (m_take G ((m_months nd mo (m_take G T)).2)) ce b (0 : Int32)) := hT.shut (by omega) (Or.inl rfl)
    refine lv_aload_n hx hb dX6_keptBack_76 rfl (lv_at hl 1 rfl) ?_
    refine x_get (ref := RX6) (C := RX6) (T := TX6) (N := 11) (ci := 6) (v := .ref (o + 50)) hx hb hts iX6 hown hK.1 hP (by omega) (by omega) (((gw_out (by omega)).trans ((gw_out (by omega)).trans (hw_0)))) rfl 1 (by decide) (hts (.fieldLink RX6 16 "PoreField" "trial" "LPoreField$Ground;") (by decide +kernel)) (fun _ h9 => h9) rfl dX6_keptBack_77 ?_
    refine lv_iload_n hx hb dX6_keptBack_80 rfl (lv_at hl 4 rfl) ?_
    refine x_calli (va_runV (As := [.int (nI mo)]) (rest := []) ⟨hx, hb, hml, hown, hts⟩ (c_X2_passMonths l D cy lo n (gw cy (hw cy w0 o P) (o + 1) G) (o + 50) (m_shut (m_take G ((m_months nd mo (m_take G T)).2)) ce b (0 : Int32)) (by omega) (by omega) nd hT mo (by omega)) (cwV 1 hts gX6_keptBack_X2_passMonths rfl rfl rfl (by decide +kernel) ⟨Nat.le_of_ble_eq_true rfl, Nat.le_of_ble_eq_true rfl⟩) (preV hP hK (x_recv (ci := 2) (q := (RX2, TX2, 12)) hK.1 hP (by omega) (by omega) rfl (gw_0))) rfl rfl hl.1 rfl (lv_room (Nat.le_of_ble_eq_true rfl)) dX6_keptBack_81 ⟨Nat.le_of_ble_eq_true rfl, Nat.le_of_ble_eq_true rfl⟩) hS (fun H locs hP hS => ?_)
    have hT : GI nd (m_months nd mo (m_shut (m_take G ((m_months nd mo (m_take G T)).2)) ce b (0 : Int32))).2 := hT.cg cg_months
    refine lv_iload hx hb dX6_keptBack_84 (lv_at hl 0 rfl) ?_
    refine lv_isub hx hb dX6_keptBack_86 ?_
    have hP := gsw hP (by omega)
    exact W.iret (v := (((m_months nd mo (m_shut (m_take G ((m_months nd mo (m_take G T)).2)) ce b (0 : Int32))).1) - ((m_months nd mo (m_take G T)).1))) hx hb hr (fun tE ht hW => ⟨⟨(((m_months nd mo (m_shut (m_take G ((m_months nd mo (m_take G T)).2)) ce b (0 : Int32))).1) - ((m_months nd mo (m_take G T)).1)), (), rfl, (by simp only [m_kept, m_would, if_neg c_25]), x_at ht ((by simp only [m_kept, m_would, if_neg c_25]; exact hP))⟩, hS.F ht⟩) hS.2.2 dX6_keptBack_87
  · refine lv_iconst (v := 0) hx hb dX6_keptBack_28 (by decide) ?_
    exact W.iret (v := (0 : Int32)) hx hb hr (fun tE ht hW => ⟨⟨(0 : Int32), (), rfl, (by simp only [m_kept, m_would, if_pos c_25]), x_at ht ((by simp only [m_kept, m_would, if_pos c_25]; exact hP))⟩, hS.F ht⟩) hS.2.2 dX6_keptBack_29
