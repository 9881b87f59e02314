theorem fo_s {α : Type} (f : Nat → α → α) (n : Nat) (x : α) : fo f (n + 1) x = f n (fo f n x) := rfl

set_option maxRecDepth 100000 in
set_option maxHeartbeats 4000000 in
/-- countMonth -/
theorem c_X6_countMonth (l : Launch) (D : va_G) (cy : Nat → ClassId) (lo n : Nat) (w0 : Nat → va_E) (o : Nat) (G T P : Mem) (ho1 : lo ≤ o) (ho2 : o + 118 ≤ lo + n) (nd : Nat) (hG : GI nd G)  : Met l yX6_countMonth wsX6_countMonth ({ frames := 0, cells := 0, slots := 0, locals := 0 }) (PcW D cy lo n (gw cy (gw cy (hw cy w0 o P) (o + 50) T) (o + 1) G) [.ref o]) (QvW D lo n (gw cy (gw cy (hw cy w0 o (m_count nd G P)) (o + 50) T) (o + 1) G)) 0 0 (fun q : Nat => lo ≤ q) := by
  refine Met.ofW (cc := cX6_countMonth) (maxL := 2) (ret := none) (by decide) rfl ?_
  intro p e s m args below meth c s₁ B hml hv
  obtain ⟨rfl, hP, hK, hS⟩ := x_entry hv
  have hx := B.exec
  have hb := B.bytes
  have hr := B.returns
  have hts := atoms_spec (ws := wsX6_countMonth) B.pre
  have hown : s.vm.findClass RX6 = some m.cls := findClass_of_methodNamed B.named
  have hlocks := B.notSynchronized
  have iX2 : ∀ w ∈ u_ws RX2 TX2 12, w ∈ wsX6_countMonth := by decide +kernel
  have iX4 : ∀ w ∈ u_ws RX4 TX4 5, w ∈ wsX6_countMonth := by decide +kernel
  have iX5 : ∀ w ∈ u_ws RX5 TX5 5, w ∈ wsX6_countMonth := by decide +kernel
  have iX6 : ∀ w ∈ u_ws RX6 TX6 11, w ∈ wsX6_countMonth := by decide +kernel
  have hl := lv_entry ([.ref o]) (n := 2) (Nat.le_of_ble_eq_true rfl)
  rw [lg_entry_eq]
  generalize (lg_sl ([.ref o]) ++ List.replicate (2 - (lg_sl ([.ref o])).length) Slot.unset).toArray = ls at hl ⊢
  have hl : lv_has ls 2 [(0, .ref o)] := hl
  have hnd := hG.1
  refine lv_iconst (v := 0) hx hb dX6_countMonth_0 (by decide) ?_
  refine lv_istore_n (lv' := [(1, .int (0 : Int32)), (0, .ref o)]) hx hb dX6_countMonth_1 rfl hl (by decide) rfl (fun ls hl => ?_)
  have hloop2 : ∀ (f_r f : Nat) (H : Heap) (locs : List Loc) (ls : Array Slot), f + f_r = 3 → lv_has ls 2 [(1, .int (nI f)), (0, .ref o)] → va_P D vwCl (rl lo n (gw cy (gw cy (hw cy w0 o (fo (m_cup G) f P)) (o + 50) T) (o + 1) G)) H → va_S (fun q : Nat => lo ≤ q) s.heap H locs → W p l e (headSpec wsX6_countMonth ({ frames := 0, cells := 0, slots := 0, locals := 0 })).room s m (([.ref o] : List Value).toArray) below meth c H locs 0 0 (MQ below (QvW D lo n (gw cy (gw cy (hw cy w0 o (m_count nd G P)) (o + 50) T) (o + 1) G)) (([.ref o] : List Value).toArray) s 0 0 (fun q : Nat => lo ≤ q)) (F0 m 2 ls []) := by
    intro f_r
    induction f_r with
    | zero =>
      intro f H locs ls hk2 hl hP hS
      obtain rfl : f = 3 := by omega
      refine lv_iload_n hx hb dX6_countMonth_2 rfl (lv_at hl 0 rfl) ?_
      refine lv_iconst (v := 3) hx hb dX6_countMonth_3 (by decide) ?_
      refine lv_icmp_ge (tgt := 31) hx hb dX6_countMonth_4 (by decide) (fun _ => ?_) (fun c => absurd ((br_le (show (3 : Int32) = nI 3 from rfl) (show (nI 3) = nI 3 from rfl) (by omega) (by omega)).mpr (by omega)) c)
      refine lv_aload_n hx hb dX6_countMonth_31 rfl (lv_at hl 1 rfl) ?_
      refine lv_dup hx hb dX6_countMonth_32 rfl ?_
      refine x_get (ref := RX6) (C := RX6) (T := TX6) (N := 11) (ci := 6) (v := .int ((fo (m_cup G) 3 P) 0 8)) hx hb hts iX6 hown hK.1 hP (by omega) (by omega) (((gw_out (by omega)).trans ((gw_out (by omega)).trans (hw_0)))) rfl 8 (by decide) (hts (.fieldLink RX6 223 "PoreField" "flaredEver" "I") (by decide +kernel)) (fun _ h9 => h9) rfl dX6_countMonth_33 ?_
      refine lv_aload_n hx hb dX6_countMonth_36 rfl (lv_at hl 1 rfl) ?_
      refine x_get (ref := RX6) (C := RX6) (T := TX6) (N := 11) (ci := 6) (v := .ref (o + 1)) hx hb hts iX6 hown hK.1 hP (by omega) (by omega) (((gw_out (by omega)).trans ((gw_out (by omega)).trans (hw_0)))) rfl 0 (by decide) (hts (.fieldLink RX6 10 "PoreField" "ground" "LPoreField$Ground;") (by decide +kernel)) (fun _ h9 => h9) rfl dX6_countMonth_37 ?_
      refine x_get (ref := RX2) (C := RX2) (T := TX2) (N := 12) (ci := 2) (v := .int (G 0 9)) hx hb hts iX2 hown hK.1 hP (by omega) (by omega) (gw_0) rfl 9 (by decide) (hts (.fieldLink RX6 291 "PoreField$Ground" "flared" "I") (by decide +kernel)) (fun _ h9 => h9) rfl dX6_countMonth_40 ?_
      refine lv_iadd hx hb dX6_countMonth_43 ?_
      refine x_put (ty := .int) (ref := RX6) (C := RX6) (T := TX6) (N := 11) (ci := 6) (v := .int (((fo (m_cup G) 3 P) 0 8) + (G 0 9))) hx hb hts iX6 tyX6 tyX6_ok nmX6 hown hK.1 hP hS (by omega) (by omega) (((gw_out (by omega)).trans ((gw_out (by omega)).trans (hw_0)))) rfl 8 (by decide) (hts (.fieldLink RX6 223 "PoreField" "flaredEver" "I") (by decide +kernel)) (fun _ h9 => h9) rfl (by decide +kernel) rfl rfl (Nat.le_of_ble_eq_true rfl) dX6_countMonth_44 (fun H locs hP hS => ?_)
      have hP := hp20 (j := 8) (v := (((fo (m_cup G) 3 P) 0 8) + (G 0 9))) hP (by omega) (by omega) (rfl)
      refine lv_aload_n hx hb dX6_countMonth_47 rfl (lv_at hl 1 rfl) ?_
      refine lv_dup hx hb dX6_countMonth_48 rfl ?_
      refine x_get (ref := RX6) (C := RX6) (T := TX6) (N := 11) (ci := 6) (v := .int ((u2 (fo (m_cup G) 3 P) (0) 8 (((fo (m_cup G) 3 P) 0 8) + (G 0 9))) 0 9)) hx hb hts iX6 hown hK.1 hP (by omega) (by omega) (((gw_out (by omega)).trans ((gw_out (by omega)).trans (hw_0)))) rfl 9 (by decide) (hts (.fieldLink RX6 226 "PoreField" "putBackEver" "I") (by decide +kernel)) (fun _ h9 => h9) rfl dX6_countMonth_49 ?_
      refine lv_aload_n hx hb dX6_countMonth_52 rfl (lv_at hl 1 rfl) ?_
      refine x_get (ref := RX6) (C := RX6) (T := TX6) (N := 11) (ci := 6) (v := .ref (o + 1)) hx hb hts iX6 hown hK.1 hP (by omega) (by omega) (((gw_out (by omega)).trans ((gw_out (by omega)).trans (hw_0)))) rfl 0 (by decide) (hts (.fieldLink RX6 10 "PoreField" "ground" "LPoreField$Ground;") (by decide +kernel)) (fun _ h9 => h9) rfl dX6_countMonth_53 ?_
      refine x_get (ref := RX2) (C := RX2) (T := TX2) (N := 12) (ci := 2) (v := .int (G 0 10)) hx hb hts iX2 hown hK.1 hP (by omega) (by omega) (gw_0) rfl 10 (by decide) (hts (.fieldLink RX6 294 "PoreField$Ground" "putBack" "I") (by decide +kernel)) (fun _ h9 => h9) rfl dX6_countMonth_56 ?_
      refine lv_iadd hx hb dX6_countMonth_59 ?_
      refine x_put (ty := .int) (ref := RX6) (C := RX6) (T := TX6) (N := 11) (ci := 6) (v := .int (((u2 (fo (m_cup G) 3 P) (0) 8 (((fo (m_cup G) 3 P) 0 8) + (G 0 9))) 0 9) + (G 0 10))) hx hb hts iX6 tyX6 tyX6_ok nmX6 hown hK.1 hP hS (by omega) (by omega) (((gw_out (by omega)).trans ((gw_out (by omega)).trans (hw_0)))) rfl 9 (by decide) (hts (.fieldLink RX6 226 "PoreField" "putBackEver" "I") (by decide +kernel)) (fun _ h9 => h9) rfl (by decide +kernel) rfl rfl (Nat.le_of_ble_eq_true rfl) dX6_countMonth_60 (fun H locs hP hS => ?_)
      have hP := hp20 (j := 9) (v := (((u2 (fo (m_cup G) 3 P) (0) 8 (((fo (m_cup G) 3 P) 0 8) + (G 0 9))) 0 9) + (G 0 10))) hP (by omega) (by omega) (rfl)
      refine lv_aload_n hx hb dX6_countMonth_63 rfl (lv_at hl 1 rfl) ?_
      refine lv_dup hx hb dX6_countMonth_64 rfl ?_
      refine x_get (ref := RX6) (C := RX6) (T := TX6) (N := 11) (ci := 6) (v := .int ((u2 (u2 (fo (m_cup G) 3 P) (0) 8 (((fo (m_cup G) 3 P) 0 8) + (G 0 9))) (0) 9 (((u2 (fo (m_cup G) 3 P) (0) 8 (((fo (m_cup G) 3 P) 0 8) + (G 0 9))) 0 9) + (G 0 10))) 0 10)) hx hb hts iX6 hown hK.1 hP (by omega) (by omega) (((gw_out (by omega)).trans ((gw_out (by omega)).trans (hw_0)))) rfl 10 (by decide) (hts (.fieldLink RX6 229 "PoreField" "waterInEver" "I") (by decide +kernel)) (fun _ h9 => h9) rfl dX6_countMonth_65 ?_
      refine lv_aload_n hx hb dX6_countMonth_68 rfl (lv_at hl 1 rfl) ?_
      refine x_get (ref := RX6) (C := RX6) (T := TX6) (N := 11) (ci := 6) (v := .ref (o + 1)) hx hb hts iX6 hown hK.1 hP (by omega) (by omega) (((gw_out (by omega)).trans ((gw_out (by omega)).trans (hw_0)))) rfl 0 (by decide) (hts (.fieldLink RX6 10 "PoreField" "ground" "LPoreField$Ground;") (by decide +kernel)) (fun _ h9 => h9) rfl dX6_countMonth_69 ?_
      refine x_get (ref := RX2) (C := RX2) (T := TX2) (N := 12) (ci := 2) (v := .int (G 0 11)) hx hb hts iX2 hown hK.1 hP (by omega) (by omega) (gw_0) rfl 11 (by decide) (hts (.fieldLink RX6 297 "PoreField$Ground" "waterIn" "I") (by decide +kernel)) (fun _ h9 => h9) rfl dX6_countMonth_72 ?_
      refine lv_iadd hx hb dX6_countMonth_75 ?_
      refine x_put (ty := .int) (ref := RX6) (C := RX6) (T := TX6) (N := 11) (ci := 6) (v := .int (((u2 (u2 (fo (m_cup G) 3 P) (0) 8 (((fo (m_cup G) 3 P) 0 8) + (G 0 9))) (0) 9 (((u2 (fo (m_cup G) 3 P) (0) 8 (((fo (m_cup G) 3 P) 0 8) + (G 0 9))) 0 9) + (G 0 10))) 0 10) + (G 0 11))) hx hb hts iX6 tyX6 tyX6_ok nmX6 hown hK.1 hP hS (by omega) (by omega) (((gw_out (by omega)).trans ((gw_out (by omega)).trans (hw_0)))) rfl 10 (by decide) (hts (.fieldLink RX6 229 "PoreField" "waterInEver" "I") (by decide +kernel)) (fun _ h9 => h9) rfl (by decide +kernel) rfl rfl (Nat.le_of_ble_eq_true rfl) dX6_countMonth_76 (fun H locs hP hS => ?_)
      have hP := hp20 (j := 10) (v := (((u2 (u2 (fo (m_cup G) 3 P) (0) 8 (((fo (m_cup G) 3 P) 0 8) + (G 0 9))) (0) 9 (((u2 (fo (m_cup G) 3 P) (0) 8 (((fo (m_cup G) 3 P) 0 8) + (G 0 9))) 0 9) + (G 0 10))) 0 10) + (G 0 11))) hP (by omega) (by omega) (rfl)
      refine lv_iconst (v := 0) hx hb dX6_countMonth_79 (by decide) ?_
      refine lv_istore_n (lv' := [(1, .int (0 : Int32)), (0, .ref o)]) hx hb dX6_countMonth_80 rfl hl (by decide) rfl (fun ls hl => ?_)
      have hloop81 : ∀ (w_r w : Nat) (H : Heap) (locs : List Loc) (ls : Array Slot), w + w_r = nd → lv_has ls 2 [(1, .int (nI w)), (0, .ref o)] → va_P D vwCl (rl lo n (gw cy (gw cy (hw cy w0 o (fo (m_cntS G) w (m_c10 G (m_c9 G (m_c8 G (fo (m_cup G) 3 P)))))) (o + 50) T) (o + 1) G)) H → va_S (fun q : Nat => lo ≤ q) s.heap H locs → W p l e (headSpec wsX6_countMonth ({ frames := 0, cells := 0, slots := 0, locals := 0 })).room s m (([.ref o] : List Value).toArray) below meth c H locs 0 0 (MQ below (QvW D lo n (gw cy (gw cy (hw cy w0 o (m_count nd G P)) (o + 50) T) (o + 1) G)) (([.ref o] : List Value).toArray) s 0 0 (fun q : Nat => lo ≤ q)) (F0 m 81 ls []) := by
        intro w_r
        induction w_r with
        | zero =>
          intro w H locs ls hk81 hl hP hS
          have ew : w = nd := by omega
          rw [ew] at hP
          rw [ew] at hl
          refine lv_iload_n hx hb dX6_countMonth_81 rfl (lv_at hl 0 rfl) ?_
          refine lv_aload_n hx hb dX6_countMonth_82 rfl (lv_at hl 1 rfl) ?_
          refine x_get (ref := RX6) (C := RX6) (T := TX6) (N := 11) (ci := 6) (v := .ref (o + 1)) hx hb hts iX6 hown hK.1 hP (by omega) (by omega) (((gw_out (by omega)).trans ((gw_out (by omega)).trans (hw_0)))) rfl 0 (by decide) (hts (.fieldLink RX6 10 "PoreField" "ground" "LPoreField$Ground;") (by decide +kernel)) (fun _ h9 => h9) rfl dX6_countMonth_83 ?_
          refine x_get (ref := RX2) (C := RX2) (T := TX2) (N := 12) (ci := 2) (v := .int (G 0 2)) hx hb hts iX2 hown hK.1 hP (by omega) (by omega) (gw_0) rfl 2 (by decide) (hts (.fieldLink RX6 87 "PoreField$Ground" "drilled" "I") (by decide +kernel)) (fun _ h9 => h9) rfl dX6_countMonth_86 ?_
          refine lv_icmp_ge (tgt := 141) hx hb dX6_countMonth_89 (by decide) (fun _ => ?_) (fun c => absurd ((br_le (show (G 0 2) = nI nd from hG.dr) (show (nI nd) = nI nd from rfl) (by omega) (by omega)).mpr (by omega)) c)
          exact W.vret hx hb hr (fun tE ht hW => ⟨⟨(), rfl, trivial, x_at ht (hP)⟩, hS.F ht⟩) hS.2.2 dX6_countMonth_141
        | succ w_r ih81 =>
          intro w H locs ls hk81 hl hP hS
          refine lv_iload_n hx hb dX6_countMonth_81 rfl (lv_at hl 0 rfl) ?_
          refine lv_aload_n hx hb dX6_countMonth_82 rfl (lv_at hl 1 rfl) ?_
          refine x_get (ref := RX6) (C := RX6) (T := TX6) (N := 11) (ci := 6) (v := .ref (o + 1)) hx hb hts iX6 hown hK.1 hP (by omega) (by omega) (((gw_out (by omega)).trans ((gw_out (by omega)).trans (hw_0)))) rfl 0 (by decide) (hts (.fieldLink RX6 10 "PoreField" "ground" "LPoreField$Ground;") (by decide +kernel)) (fun _ h9 => h9) rfl dX6_countMonth_83 ?_
          refine x_get (ref := RX2) (C := RX2) (T := TX2) (N := 12) (ci := 2) (v := .int (G 0 2)) hx hb hts iX2 hown hK.1 hP (by omega) (by omega) (gw_0) rfl 2 (by decide) (hts (.fieldLink RX6 87 "PoreField$Ground" "drilled" "I") (by decide +kernel)) (fun _ h9 => h9) rfl dX6_countMonth_86 ?_
          refine lv_icmp_ge (tgt := 141) hx hb dX6_countMonth_89 (by decide) (fun c => absurd ((br_le (show (G 0 2) = nI nd from hG.dr) (show (nI w) = nI w from rfl) (by omega) (by omega)).mp c) (by omega)) (fun _ => ?_)
          refine lv_aload_n hx hb dX6_countMonth_92 rfl (lv_at hl 1 rfl) ?_
          refine x_get (ref := RX6) (C := RX6) (T := TX6) (N := 11) (ci := 6) (v := .ref (o + 1)) hx hb hts iX6 hown hK.1 hP (by omega) (by omega) (((gw_out (by omega)).trans ((gw_out (by omega)).trans (hw_0)))) rfl 0 (by decide) (hts (.fieldLink RX6 10 "PoreField" "ground" "LPoreField$Ground;") (by decide +kernel)) (fun _ h9 => h9) rfl dX6_countMonth_93 ?_
          refine x_get (ref := RX2) (C := RX2) (T := TX2) (N := 12) (ci := 2) (v := .ref ((o + 1) + 2)) hx hb hts iX2 hown hK.1 hP (by omega) (by omega) (gw_0) rfl 1 (by decide) (hts (.fieldLink RX6 97 "PoreField$Ground" "wells" "[LPoreField$Well;") (by decide +kernel)) (fun _ h9 => h9) rfl dX6_countMonth_96 ?_
          refine lv_iload_n hx hb dX6_countMonth_99 rfl (lv_at hl 0 rfl) ?_
          refine x_aald (b := ((o + 1) + (37 + 2 * w))) hx hb hK.1 hP (by omega) (by omega) 2 (gw_2) rfl (cl_of_nI (i := w) rfl (by omega)) rfl (vp_in_of_nI (i := w) rfl (by omega) (by omega)) dX6_countMonth_100 ?_
          refine x_get (ref := RX4) (C := RX4) (T := TX4) (N := 5) (ci := 4) (v := .int (G (37 + 2 * w) 0)) hx hb hts iX4 hown hK.1 hP (by omega) (by omega) (gw_well (by omega)) rfl 0 (by decide) (hts (.fieldLink RX6 101 "PoreField$Well" "kind" "I") (by decide +kernel)) (fun _ h9 => h9) rfl dX6_countMonth_101 ?_
          refine lv_if_ne (tgt := 135) hx hb dX6_countMonth_104 (by decide) (fun c_104 => ?_) (fun c_104 => ?_)
          · refine lv_iinc (v := (nI (w + 1))) (lv' := [(1, .int (nI (w + 1))), (0, .ref o)]) hx hb dX6_countMonth_135 hl (k := 0) rfl (nI_1 _) (by decide) rfl (fun ls hl => ?_)
            refine lv_goto (tgt := 81) hx hb dX6_countMonth_138 (by decide) ?_
            exact ih81 (w + 1) _ _ _ (by omega) (lv_sub hl [0, 1] rfl) ((by rw [show fo (m_cntS G) (w + 1) (m_c10 G (m_c9 G (m_c8 G (fo (m_cup G) 3 P)))) = fo (m_cntS G) w (m_c10 G (m_c9 G (m_c8 G (fo (m_cup G) 3 P)))) from (by simp only [fo_s, m_cntS, if_neg c_104])]; exact hP)) hS
          · refine lv_aload_n hx hb dX6_countMonth_107 rfl (lv_at hl 1 rfl) ?_
            refine x_get (ref := RX6) (C := RX6) (T := TX6) (N := 11) (ci := 6) (v := .ref (o + 99)) hx hb hts iX6 hown hK.1 hP (by omega) (by omega) (((gw_out (by omega)).trans ((gw_out (by omega)).trans (hw_0)))) rfl 2 (by decide) (hts (.fieldLink RX6 21 "PoreField" "logs" "[LPoreField$WellLog;") (by decide +kernel)) (fun _ h9 => h9) rfl dX6_countMonth_108 ?_
            refine lv_iload_n hx hb dX6_countMonth_111 rfl (lv_at hl 0 rfl) ?_
            refine x_aald (b := (o + (103 + 2 * w))) hx hb hK.1 hP (by omega) (by omega) 3 (((gw_out (by omega)).trans ((gw_out (by omega)).trans (hw_99)))) rfl (cl_of_nI (i := w) rfl (by omega)) rfl (vp_in_of_nI (i := w) rfl (by omega) (by omega)) dX6_countMonth_112 ?_
            refine lv_dup hx hb dX6_countMonth_113 rfl ?_
            refine x_get (ref := RX5) (C := RX5) (T := TX5) (N := 5) (ci := 5) (v := .int ((fo (m_cntS G) w (m_c10 G (m_c9 G (m_c8 G (fo (m_cup G) 3 P))))) (103 + 2 * w) 3)) hx hb hts iX5 hown hK.1 hP (by omega) (by omega) (((gw_out (by omega)).trans ((gw_out (by omega)).trans (hw_log (by omega))))) rfl 3 (by decide) (hts (.fieldLink RX6 211 "PoreField$WellLog" "oilEver" "I") (by decide +kernel)) (fun _ h9 => h9) rfl dX6_countMonth_114 ?_
            refine lv_aload_n hx hb dX6_countMonth_117 rfl (lv_at hl 1 rfl) ?_
            refine x_get (ref := RX6) (C := RX6) (T := TX6) (N := 11) (ci := 6) (v := .ref (o + 1)) hx hb hts iX6 hown hK.1 hP (by omega) (by omega) (((gw_out (by omega)).trans ((gw_out (by omega)).trans (hw_0)))) rfl 0 (by decide) (hts (.fieldLink RX6 10 "PoreField" "ground" "LPoreField$Ground;") (by decide +kernel)) (fun _ h9 => h9) rfl dX6_countMonth_118 ?_
            refine x_get (ref := RX2) (C := RX2) (T := TX2) (N := 12) (ci := 2) (v := .ref ((o + 1) + 2)) hx hb hts iX2 hown hK.1 hP (by omega) (by omega) (gw_0) rfl 1 (by decide) (hts (.fieldLink RX6 97 "PoreField$Ground" "wells" "[LPoreField$Well;") (by decide +kernel)) (fun _ h9 => h9) rfl dX6_countMonth_121 ?_
            refine lv_iload_n hx hb dX6_countMonth_124 rfl (lv_at hl 0 rfl) ?_
            refine x_aald (b := ((o + 1) + (37 + 2 * w))) hx hb hK.1 hP (by omega) (by omega) 2 (gw_2) rfl (cl_of_nI (i := w) rfl (by omega)) rfl (vp_in_of_nI (i := w) rfl (by omega) (by omega)) dX6_countMonth_125 ?_
            refine x_get (ref := RX4) (C := RX4) (T := TX4) (N := 5) (ci := 4) (v := .ref ((o + 1) + (38 + 2 * w))) hx hb hts iX4 hown hK.1 hP (by omega) (by omega) (gw_well (by omega)) rfl 4 (by decide) (hts (.fieldLink RX6 208 "PoreField$Well" "gave" "[I") (by decide +kernel)) (fun _ h9 => h9) rfl dX6_countMonth_126 ?_
            refine lv_iconst (v := 0) hx hb dX6_countMonth_129 (by decide) ?_
            refine x_iald hx hb hK.1 hP (by omega) (by omega) 0 (gw_row (gRow_gave (by omega))) rfl (cl_of_nI (i := 0) rfl (by omega)) (vp_in_of_nI (i := 0) rfl (by omega) (by omega)) dX6_countMonth_130 ?_
            refine lv_iadd hx hb dX6_countMonth_131 ?_
            refine x_put (ty := .int) (ref := RX5) (C := RX5) (T := TX5) (N := 5) (ci := 5) (v := .int (((fo (m_cntS G) w (m_c10 G (m_c9 G (m_c8 G (fo (m_cup G) 3 P))))) (103 + 2 * w) 3) + (G (38 + 2 * w) 0))) hx hb hts iX5 tyX5 tyX5_ok nmX5 hown hK.1 hP hS (by omega) (by omega) (((gw_out (by omega)).trans ((gw_out (by omega)).trans (hw_log (by omega))))) rfl 3 (by decide) (hts (.fieldLink RX6 211 "PoreField$WellLog" "oilEver" "I") (by decide +kernel)) (fun _ h9 => h9) rfl (by decide +kernel) rfl rfl (Nat.le_of_ble_eq_true rfl) dX6_countMonth_132 (fun H locs hP hS => ?_)
            have hP := hp2 (k := 103 + 2 * w) (j := 3) (v := (((fo (m_cntS G) w (m_c10 G (m_c9 G (m_c8 G (fo (m_cup G) 3 P))))) (103 + 2 * w) 3) + (G (38 + 2 * w) 0))) hP (by omega) (by omega) (by omega) (by rw [hEr_log (by omega)]; rfl)
            refine lv_iinc (v := (nI (w + 1))) (lv' := [(1, .int (nI (w + 1))), (0, .ref o)]) hx hb dX6_countMonth_135 hl (k := 0) rfl (nI_1 _) (by decide) rfl (fun ls hl => ?_)
            refine lv_goto (tgt := 81) hx hb dX6_countMonth_138 (by decide) ?_
            exact ih81 (w + 1) _ _ _ (by omega) (lv_sub hl [0, 1] rfl) ((by rw [show fo (m_cntS G) (w + 1) (m_c10 G (m_c9 G (m_c8 G (fo (m_cup G) 3 P)))) = u2 (fo (m_cntS G) w (m_c10 G (m_c9 G (m_c8 G (fo (m_cup G) 3 P))))) (103 + 2 * w) 3 (((fo (m_cntS G) w (m_c10 G (m_c9 G (m_c8 G (fo (m_cup G) 3 P))))) (103 + 2 * w) 3) + (G (38 + 2 * w) 0)) from (by simp only [fo_s, m_cntS, if_pos c_104])]; exact hP)) hS
      exact hloop81 nd 0 _ _ _ (by omega) (lv_sub hl [0, 1] rfl) (hP) hS
    | succ f_r ih2 =>
      intro f H locs ls hk2 hl hP hS
      refine lv_iload_n hx hb dX6_countMonth_2 rfl (lv_at hl 0 rfl) ?_
      refine lv_iconst (v := 3) hx hb dX6_countMonth_3 (by decide) ?_
      refine lv_icmp_ge (tgt := 31) hx hb dX6_countMonth_4 (by decide) (fun c => absurd ((br_le (show (3 : Int32) = nI 3 from rfl) (show (nI f) = nI f from rfl) (by omega) (by omega)).mp c) (by omega)) (fun _ => ?_)
      refine lv_aload_n hx hb dX6_countMonth_7 rfl (lv_at hl 1 rfl) ?_
      refine x_get (ref := RX6) (C := RX6) (T := TX6) (N := 11) (ci := 6) (v := .ref (o + 102)) hx hb hts iX6 hown hK.1 hP (by omega) (by omega) (((gw_out (by omega)).trans ((gw_out (by omega)).trans (hw_0)))) rfl 5 (by decide) (hts (.fieldLink RX6 38 "PoreField" "cameUpEver" "[I") (by decide +kernel)) (fun _ h9 => h9) rfl dX6_countMonth_8 ?_
      refine lv_iload_n hx hb dX6_countMonth_11 rfl (lv_at hl 0 rfl) ?_
      refine lv_dup2_11 hx hb dX6_countMonth_12 rfl rfl ?_
      refine x_iald hx hb hK.1 hP (by omega) (by omega) 0 (((gw_out (by omega)).trans ((gw_out (by omega)).trans (hw_row (hRow_102))))) rfl (cl_of_nI (i := f) rfl (by omega)) (vp_in_of_nI (i := f) rfl (by omega) (by omega)) dX6_countMonth_13 ?_
      refine lv_aload_n hx hb dX6_countMonth_14 rfl (lv_at hl 1 rfl) ?_
      refine x_get (ref := RX6) (C := RX6) (T := TX6) (N := 11) (ci := 6) (v := .ref (o + 1)) hx hb hts iX6 hown hK.1 hP (by omega) (by omega) (((gw_out (by omega)).trans ((gw_out (by omega)).trans (hw_0)))) rfl 0 (by decide) (hts (.fieldLink RX6 10 "PoreField" "ground" "LPoreField$Ground;") (by decide +kernel)) (fun _ h9 => h9) rfl dX6_countMonth_15 ?_
      refine x_get (ref := RX2) (C := RX2) (T := TX2) (N := 12) (ci := 2) (v := .ref ((o + 1) + 4)) hx hb hts iX2 hown hK.1 hP (by omega) (by omega) (gw_0) rfl 7 (by decide) (hts (.fieldLink RX6 151 "PoreField$Ground" "cameUp" "[I") (by decide +kernel)) (fun _ h9 => h9) rfl dX6_countMonth_18 ?_
      refine lv_iload_n hx hb dX6_countMonth_21 rfl (lv_at hl 0 rfl) ?_
      refine x_iald hx hb hK.1 hP (by omega) (by omega) 0 (gw_row (gRow_4)) rfl (cl_of_nI (i := f) rfl (by omega)) (vp_in_of_nI (i := f) rfl (by omega) (by omega)) dX6_countMonth_22 ?_
      refine lv_iadd hx hb dX6_countMonth_23 ?_
      refine x_iast (v := (((fo (m_cup G) f P) (102) f) + (G (4) f))) hx hb hK.1 hP hS (by omega) (by omega) 0 (((gw_out (by omega)).trans ((gw_out (by omega)).trans (hw_row (hRow_102))))) rfl (cl_of_nI (i := f) rfl (by omega)) (vp_in_of_nI (i := f) rfl (by omega) (by omega)) dX6_countMonth_24 (fun H locs hP hS => ?_)
      have hP := hp2r (k := 102) (j := f) (v := (((fo (m_cup G) f P) (102) f) + (G (4) f))) hP (by omega) (by omega) (hRow_102)
      refine lv_iinc (v := (nI (f + 1))) (lv' := [(1, .int (nI (f + 1))), (0, .ref o)]) hx hb dX6_countMonth_25 hl (k := 0) rfl (nI_1 _) (by decide) rfl (fun ls hl => ?_)
      refine lv_goto (tgt := 2) hx hb dX6_countMonth_28 (by decide) ?_
      exact ih2 (f + 1) _ _ _ (by omega) (lv_sub hl [0, 1] rfl) (hP) hS
  exact hloop2 3 0 _ _ _ (by omega) (lv_sub hl [0, 1] rfl) (hP) hS

theorem clneg {x : Int32} (h : x < 0) : x.toNatClampNeg = 0 := by
  have h1 : x.toInt < 0 := by simpa using Int32.lt_iff_toInt_lt.mp h
  show x.toInt.toNat = 0
  omega
theorem clpos {x : Int32} (h : ¬ x < 0) : x = nI x.toNatClampNeg ∧ x.toNatClampNeg < 2 ^ 31 := by
  obtain ⟨j, hj, rfl⟩ := nI_of h
  rw [nI_clamp hj]
  exact ⟨rfl, hj⟩

set_option maxRecDepth 100000 in
set_option maxHeartbeats 4000000 in
/-- allocateOneByOne -/
theorem c_X6_allocateOneByOne (l : Launch) (D : va_G) (cy : Nat → ClassId) (lo n : Nat) (w0 : Nat → va_E) (o : Nat) (G T P : Mem) (ho1 : lo ≤ o) (ho2 : o + 118 ≤ lo + n) (nd : Nat) (hG : GI nd G) (oil : Int32) : Met l yX6_allocateOneByOne wsX6_allocateOneByOne ({ frames := 1, cells := 0, slots := 0, locals := 20 }) (PcW D cy lo n (gw cy (gw cy (hw cy w0 o P) (o + 50) T) (o + 1) G) [.ref o, .int oil]) (QvW D lo n (gw cy (gw cy (hw cy w0 o (m_one nd G oil P)) (o + 50) T) (o + 1) G)) 0 0 (fun q : Nat => lo ≤ q) := by
  refine Met.ofW (cc := cX6_allocateOneByOne) (maxL := 5) (ret := none) (by decide) rfl ?_
  intro p e s m args below meth c s₁ B hml hv
  obtain ⟨rfl, hP, hK, hS⟩ := x_entry hv
  have hx := B.exec
  have hb := B.bytes
  have hr := B.returns
  have hts := atoms_spec (ws := wsX6_allocateOneByOne) B.pre
  have hown : s.vm.findClass RX6 = some m.cls := findClass_of_methodNamed B.named
  have hlocks := B.notSynchronized
  have iX2 : ∀ w ∈ u_ws RX2 TX2 12, w ∈ wsX6_allocateOneByOne := by decide +kernel
  have iX5 : ∀ w ∈ u_ws RX5 TX5 5, w ∈ wsX6_allocateOneByOne := by decide +kernel
  have iX6 : ∀ w ∈ u_ws RX6 TX6 11, w ∈ wsX6_allocateOneByOne := by decide +kernel
  have hl := lv_entry ([.ref o, .int oil]) (n := 5) (Nat.le_of_ble_eq_true rfl)
  rw [lg_entry_eq]
  generalize (lg_sl ([.ref o, .int oil]) ++ List.replicate (5 - (lg_sl ([.ref o, .int oil])).length) Slot.unset).toArray = ls at hl ⊢
  have hl : lv_has ls 5 [(0, .ref o), (1, .int oil)] := hl
  have hnd := hG.1
  refine lv_iload_n hx hb dX6_allocateOneByOne_0 rfl (lv_at hl 1 rfl) ?_
  refine lv_istore_n (lv' := [(2, .int oil), (0, .ref o), (1, .int oil)]) hx hb dX6_allocateOneByOne_1 rfl hl (by decide) rfl (fun ls hl => ?_)
  refine lv_iconst (v := 0) hx hb dX6_allocateOneByOne_2 (by decide) ?_
  refine lv_istore_n (lv' := [(3, .int (0 : Int32)), (2, .int oil), (0, .ref o), (1, .int oil)]) hx hb dX6_allocateOneByOne_3 rfl hl (by decide) rfl (fun ls hl => ?_)
  by_cases hneg : oil < 0
  · refine lv_iload_n hx hb dX6_allocateOneByOne_4 rfl (lv_at hl 0 rfl) ?_
    refine lv_iload_n hx hb dX6_allocateOneByOne_5 rfl (lv_at hl 3 rfl) ?_
    refine lv_icmp_ge (tgt := 79) hx hb dX6_allocateOneByOne_6 (by decide) (fun _ => ?_) (fun c => absurd (Int32.le_of_lt hneg) c)
    have hone : m_one nd G oil P = P := by unfold m_one; rw [clneg hneg]; rfl
    rw [← hone] at hP
    exact W.vret hx hb hr (fun tE ht hW => ⟨⟨(), rfl, trivial, x_at ht (hP)⟩, hS.F ht⟩) hS.2.2 dX6_allocateOneByOne_79
  · obtain ⟨hoil, hoil31⟩ := clpos hneg
    have hloop4 : ∀ (ro_r ro : Nat) (H : Heap) (locs : List Loc) (ls : Array Slot), ro + ro_r = oil.toNatClampNeg → lv_has ls 5 [(3, .int (nI ro)), (2, .int ((m_oN nd G oil P ro).1)), (0, .ref o), (1, .int oil)] → va_P D vwCl (rl lo n (gw cy (gw cy (hw cy w0 o ((m_oN nd G oil P ro).2)) (o + 50) T) (o + 1) G)) H → va_S (fun q : Nat => lo ≤ q) s.heap H locs → W p l e (headSpec wsX6_allocateOneByOne ({ frames := 1, cells := 0, slots := 0, locals := 20 })).room s m (([.ref o, .int oil] : List Value).toArray) below meth c H locs 0 0 (MQ below (QvW D lo n (gw cy (gw cy (hw cy w0 o (m_one nd G oil P)) (o + 50) T) (o + 1) G)) (([.ref o, .int oil] : List Value).toArray) s 0 0 (fun q : Nat => lo ≤ q)) (F0 m 4 ls []) := by
      intro ro_r
      induction ro_r with
      | zero =>
        intro ro H locs ls hk4 hl hP hS
        have ero : ro = oil.toNatClampNeg := by omega
        rw [ero] at hP
        rw [ero] at hl
        refine lv_iload_n hx hb dX6_allocateOneByOne_4 rfl (lv_at hl 0 rfl) ?_
        refine lv_iload_n hx hb dX6_allocateOneByOne_5 rfl (lv_at hl 3 rfl) ?_
        refine lv_icmp_ge (tgt := 79) hx hb dX6_allocateOneByOne_6 (by decide) (fun _ => ?_) (fun c => absurd ((br_le (show oil = nI oil.toNatClampNeg from hoil) (show (nI oil.toNatClampNeg) = nI oil.toNatClampNeg from rfl) (by omega) (by omega)).mpr (by omega)) c)
        exact W.vret hx hb hr (fun tE ht hW => ⟨⟨(), rfl, trivial, x_at ht (hP)⟩, hS.F ht⟩) hS.2.2 dX6_allocateOneByOne_79
      | succ ro_r ih4 =>
        intro ro H locs ls hk4 hl hP hS
        refine lv_iload_n hx hb dX6_allocateOneByOne_4 rfl (lv_at hl 0 rfl) ?_
        refine lv_iload_n hx hb dX6_allocateOneByOne_5 rfl (lv_at hl 3 rfl) ?_
        refine lv_icmp_ge (tgt := 79) hx hb dX6_allocateOneByOne_6 (by decide) (fun c => absurd ((br_le (show oil = nI oil.toNatClampNeg from hoil) (show (nI ro) = nI ro from rfl) (by omega) (by omega)).mp c) (by omega)) (fun _ => ?_)
        refine lv_iload_n hx hb dX6_allocateOneByOne_9 rfl (lv_at hl 1 rfl) ?_
        refine lv_if_le (tgt := 79) hx hb dX6_allocateOneByOne_10 (by decide) (fun c_10 => ?_) (fun c_10 => ?_)
        · have hone : m_one nd G oil P = (m_oN nd G oil P ro).2 := by unfold m_one; rw [oN_stop (by omega) c_10]
          rw [← hone] at hP
          exact W.vret hx hb hr (fun tE ht hW => ⟨⟨(), rfl, trivial, x_at ht (hP)⟩, hS.F ht⟩) hS.2.2 dX6_allocateOneByOne_79
        · refine lv_iconst (v := 0) hx hb dX6_allocateOneByOne_13 (by decide) ?_
          refine lv_istore (lv' := [(4, .int (0 : Int32)), (3, .int (nI ro)), (2, .int ((m_oN nd G oil P ro).1)), (0, .ref o), (1, .int oil)]) hx hb dX6_allocateOneByOne_14 hl (by decide) rfl (fun ls hl => ?_)
          have hloop16 : ∀ (w_r w : Nat) (H : Heap) (locs : List Loc) (ls : Array Slot), w + w_r = nd → lv_has ls 5 [(4, .int (nI w)), (3, .int (nI ro)), (2, .int ((fo (m_oS G) w (m_oN nd G oil P ro)).1)), (0, .ref o), (1, .int oil)] → va_P D vwCl (rl lo n (gw cy (gw cy (hw cy w0 o ((fo (m_oS G) w (m_oN nd G oil P ro)).2)) (o + 50) T) (o + 1) G)) H → va_S (fun q : Nat => lo ≤ q) s.heap H locs → W p l e (headSpec wsX6_allocateOneByOne ({ frames := 1, cells := 0, slots := 0, locals := 20 })).room s m (([.ref o, .int oil] : List Value).toArray) below meth c H locs 0 0 (MQ below (QvW D lo n (gw cy (gw cy (hw cy w0 o (m_one nd G oil P)) (o + 50) T) (o + 1) G)) (([.ref o, .int oil] : List Value).toArray) s 0 0 (fun q : Nat => lo ≤ q)) (F0 m 16 ls []) := by
            intro w_r
            induction w_r with
            | zero =>
              intro w H locs ls hk16 hl hP hS
              have ew : w = nd := by omega
              rw [ew] at hP
              rw [ew] at hl
              refine lv_iload hx hb dX6_allocateOneByOne_16 (lv_at hl 0 rfl) ?_
              refine lv_aload_n hx hb dX6_allocateOneByOne_18 rfl (lv_at hl 3 rfl) ?_
              refine x_get (ref := RX6) (C := RX6) (T := TX6) (N := 11) (ci := 6) (v := .ref (o + 1)) hx hb hts iX6 hown hK.1 hP (by omega) (by omega) (((gw_out (by omega)).trans ((gw_out (by omega)).trans (hw_0)))) rfl 0 (by decide) (hts (.fieldLink RX6 10 "PoreField" "ground" "LPoreField$Ground;") (by decide +kernel)) (fun _ h9 => h9) rfl dX6_allocateOneByOne_19 ?_
              refine x_get (ref := RX2) (C := RX2) (T := TX2) (N := 12) (ci := 2) (v := .int (G 0 2)) hx hb hts iX2 hown hK.1 hP (by omega) (by omega) (gw_0) rfl 2 (by decide) (hts (.fieldLink RX6 87 "PoreField$Ground" "drilled" "I") (by decide +kernel)) (fun _ h9 => h9) rfl dX6_allocateOneByOne_22 ?_
              refine lv_icmp_ge (tgt := 73) hx hb dX6_allocateOneByOne_25 (by decide) (fun _ => ?_) (fun c => absurd ((br_le (show (G 0 2) = nI nd from hG.dr) (show (nI nd) = nI nd from rfl) (by omega) (by omega)).mpr (by omega)) c)
              have hR : m_oN nd G oil P (ro + 1) = (fo (m_oS G) nd (m_oN nd G oil P ro)) := by show m_oR nd G ro (m_oN nd G oil P ro) = _; simp only [m_oR, if_neg c_10]
              rw [← hR] at hP hl
              refine lv_iinc (v := (nI (ro + 1))) (lv' := [(3, .int (nI (ro + 1))), (4, .int (nI nd)), (2, .int ((m_oN nd G oil P (ro + 1)).1)), (0, .ref o), (1, .int oil)]) hx hb dX6_allocateOneByOne_73 hl (k := 1) rfl (nI_1 _) (by decide) rfl (fun ls hl => ?_)
              refine lv_goto (tgt := 4) hx hb dX6_allocateOneByOne_76 (by decide) ?_
              exact ih4 (ro + 1) _ _ _ (by omega) (lv_sub hl [0, 2, 3, 4] rfl) (hP) hS
            | succ w_r ih16 =>
              intro w H locs ls hk16 hl hP hS
              refine lv_iload hx hb dX6_allocateOneByOne_16 (lv_at hl 0 rfl) ?_
              refine lv_aload_n hx hb dX6_allocateOneByOne_18 rfl (lv_at hl 3 rfl) ?_
              refine x_get (ref := RX6) (C := RX6) (T := TX6) (N := 11) (ci := 6) (v := .ref (o + 1)) hx hb hts iX6 hown hK.1 hP (by omega) (by omega) (((gw_out (by omega)).trans ((gw_out (by omega)).trans (hw_0)))) rfl 0 (by decide) (hts (.fieldLink RX6 10 "PoreField" "ground" "LPoreField$Ground;") (by decide +kernel)) (fun _ h9 => h9) rfl dX6_allocateOneByOne_19 ?_
              refine x_get (ref := RX2) (C := RX2) (T := TX2) (N := 12) (ci := 2) (v := .int (G 0 2)) hx hb hts iX2 hown hK.1 hP (by omega) (by omega) (gw_0) rfl 2 (by decide) (hts (.fieldLink RX6 87 "PoreField$Ground" "drilled" "I") (by decide +kernel)) (fun _ h9 => h9) rfl dX6_allocateOneByOne_22 ?_
              refine lv_icmp_ge (tgt := 73) hx hb dX6_allocateOneByOne_25 (by decide) (fun c => absurd ((br_le (show (G 0 2) = nI nd from hG.dr) (show (nI w) = nI w from rfl) (by omega) (by omega)).mp c) (by omega)) (fun _ => ?_)
              refine lv_iload_n hx hb dX6_allocateOneByOne_28 rfl (lv_at hl 2 rfl) ?_
              refine lv_if_le (tgt := 73) hx hb dX6_allocateOneByOne_29 (by decide) (fun c_29 => ?_) (fun c_29 => ?_)
              · have hst : (fo (m_oS G) nd (m_oN nd G oil P ro)) = (fo (m_oS G) w (m_oN nd G oil P ro)) := oS_stop (by omega) c_29
                rw [← hst] at hP hl
                have hR : m_oN nd G oil P (ro + 1) = (fo (m_oS G) nd (m_oN nd G oil P ro)) := by show m_oR nd G ro (m_oN nd G oil P ro) = _; simp only [m_oR, if_neg c_10]
                rw [← hR] at hP hl
                refine lv_iinc (v := (nI (ro + 1))) (lv' := [(3, .int (nI (ro + 1))), (4, .int (nI w)), (2, .int ((m_oN nd G oil P (ro + 1)).1)), (0, .ref o), (1, .int oil)]) hx hb dX6_allocateOneByOne_73 hl (k := 1) rfl (nI_1 _) (by decide) rfl (fun ls hl => ?_)
                refine lv_goto (tgt := 4) hx hb dX6_allocateOneByOne_76 (by decide) ?_
                exact ih4 (ro + 1) _ _ _ (by omega) (lv_sub hl [0, 2, 3, 4] rfl) (hP) hS
              · refine lv_aload_n hx hb dX6_allocateOneByOne_32 rfl (lv_at hl 3 rfl) ?_
                refine x_get (ref := RX6) (C := RX6) (T := TX6) (N := 11) (ci := 6) (v := .ref (o + 1)) hx hb hts iX6 hown hK.1 hP (by omega) (by omega) (((gw_out (by omega)).trans ((gw_out (by omega)).trans (hw_0)))) rfl 0 (by decide) (hts (.fieldLink RX6 10 "PoreField" "ground" "LPoreField$Ground;") (by decide +kernel)) (fun _ h9 => h9) rfl dX6_allocateOneByOne_33 ?_
                refine x_get (ref := RX2) (C := RX2) (T := TX2) (N := 12) (ci := 2) (v := .ref ((o + 1) + 2)) hx hb hts iX2 hown hK.1 hP (by omega) (by omega) (gw_0) rfl 1 (by decide) (hts (.fieldLink RX6 97 "PoreField$Ground" "wells" "[LPoreField$Well;") (by decide +kernel)) (fun _ h9 => h9) rfl dX6_allocateOneByOne_36 ?_
                refine lv_iload hx hb dX6_allocateOneByOne_39 (lv_at hl 0 rfl) ?_
                refine x_aald (b := ((o + 1) + (37 + 2 * w))) hx hb hK.1 hP (by omega) (by omega) 2 (gw_2) rfl (cl_of_nI (i := w) rfl (by omega)) rfl (vp_in_of_nI (i := w) rfl (by omega) (by omega)) dX6_allocateOneByOne_41 ?_
                refine x_calli (va_runV (As := []) (rest := []) ⟨hx, hb, hml, hown, hts⟩ (c_X4_hasProduced l D cy lo n (gw cy (hw cy w0 o ((fo (m_oS G) w (m_oN nd G oil P ro)).2)) (o + 50) T) (o + 1) G (by omega) (by omega) w (by omega)) (cwV 0 hts gX6_allocateOneByOne_X4_hasProduced rfl rfl rfl (by decide +kernel) ⟨Nat.le_of_ble_eq_true rfl, Nat.le_of_ble_eq_true rfl⟩) (preV hP hK (x_recv (ci := 4) (q := (RX4, TX4, 5)) hK.1 hP (by omega) (by omega) rfl (gw_well (by omega)))) rfl rfl hl.1 rfl (lv_room (Nat.le_of_ble_eq_true rfl)) dX6_allocateOneByOne_42 ⟨Nat.le_of_ble_eq_true rfl, Nat.le_of_ble_eq_true rfl⟩) hS (fun H locs hP hS => ?_)
                refine lv_if_eq (tgt := 67) hx hb dX6_allocateOneByOne_45 (by decide) (fun c_45 => ?_) (fun c_45 => ?_)
                · refine lv_iinc (v := (nI (w + 1))) (lv' := [(4, .int (nI (w + 1))), (3, .int (nI ro)), (2, .int ((fo (m_oS G) w (m_oN nd G oil P ro)).1)), (0, .ref o), (1, .int oil)]) hx hb dX6_allocateOneByOne_67 hl (k := 0) rfl (nI_1 _) (by decide) rfl (fun ls hl => ?_)
                  refine lv_goto (tgt := 16) hx hb dX6_allocateOneByOne_70 (by decide) ?_
                  have hst1 : (fo (m_oS G) (w + 1) (m_oN nd G oil P ro)).1 = ((fo (m_oS G) w (m_oN nd G oil P ro)).1) := by simp only [fo_s, m_oS, if_neg hneg, if_neg c_10, if_neg c_29, if_pos c_45]
                  have hst2 : (fo (m_oS G) (w + 1) (m_oN nd G oil P ro)).2 = (fo (m_oS G) w (m_oN nd G oil P ro)).2 := by simp only [fo_s, m_oS, if_neg hneg, if_neg c_10, if_neg c_29, if_pos c_45]
                  have hl : lv_has ls 5 [(4, .int (nI (w + 1))), (3, .int (nI ro)), (2, .int ((fo (m_oS G) (w + 1) (m_oN nd G oil P ro)).1)), (0, .ref o), (1, .int oil)] := by rw [hst1]; exact hl
                  exact ih16 (w + 1) _ _ _ (by omega) (lv_sub hl [0, 1, 2, 3, 4] rfl) ((by rw [hst2]; exact hP)) hS
                · refine lv_aload_n hx hb dX6_allocateOneByOne_48 rfl (lv_at hl 3 rfl) ?_
                  refine x_get (ref := RX6) (C := RX6) (T := TX6) (N := 11) (ci := 6) (v := .ref (o + 99)) hx hb hts iX6 hown hK.1 hP (by omega) (by omega) (((gw_out (by omega)).trans ((gw_out (by omega)).trans (hw_0)))) rfl 2 (by decide) (hts (.fieldLink RX6 21 "PoreField" "logs" "[LPoreField$WellLog;") (by decide +kernel)) (fun _ h9 => h9) rfl dX6_allocateOneByOne_49 ?_
                  refine lv_iload hx hb dX6_allocateOneByOne_52 (lv_at hl 0 rfl) ?_
                  refine x_aald (b := (o + (103 + 2 * w))) hx hb hK.1 hP (by omega) (by omega) 3 (((gw_out (by omega)).trans ((gw_out (by omega)).trans (hw_99)))) rfl (cl_of_nI (i := w) rfl (by omega)) rfl (vp_in_of_nI (i := w) rfl (by omega) (by omega)) dX6_allocateOneByOne_54 ?_
                  refine lv_dup hx hb dX6_allocateOneByOne_55 rfl ?_
                  refine x_get (ref := RX5) (C := RX5) (T := TX5) (N := 5) (ci := 5) (v := .int (((fo (m_oS G) w (m_oN nd G oil P ro)).2) (103 + 2 * w) 4)) hx hb hts iX5 hown hK.1 hP (by omega) (by omega) (((gw_out (by omega)).trans ((gw_out (by omega)).trans (hw_log (by omega))))) rfl 4 (by decide) (hts (.fieldLink RX6 214 "PoreField$WellLog" "allocatedEver" "I") (by decide +kernel)) (fun _ h9 => h9) rfl dX6_allocateOneByOne_56 ?_
                  refine lv_iconst (v := 1) hx hb dX6_allocateOneByOne_59 (by decide) ?_
                  refine lv_iadd hx hb dX6_allocateOneByOne_60 ?_
                  refine x_put (ty := .int) (ref := RX5) (C := RX5) (T := TX5) (N := 5) (ci := 5) (v := .int ((((fo (m_oS G) w (m_oN nd G oil P ro)).2) (103 + 2 * w) 4) + (1 : Int32))) hx hb hts iX5 tyX5 tyX5_ok nmX5 hown hK.1 hP hS (by omega) (by omega) (((gw_out (by omega)).trans ((gw_out (by omega)).trans (hw_log (by omega))))) rfl 4 (by decide) (hts (.fieldLink RX6 214 "PoreField$WellLog" "allocatedEver" "I") (by decide +kernel)) (fun _ h9 => h9) rfl (by decide +kernel) rfl rfl (Nat.le_of_ble_eq_true rfl) dX6_allocateOneByOne_61 (fun H locs hP hS => ?_)
                  have hP := hp2 (k := 103 + 2 * w) (j := 4) (v := ((((fo (m_oS G) w (m_oN nd G oil P ro)).2) (103 + 2 * w) 4) + (1 : Int32))) hP (by omega) (by omega) (by omega) (by rw [hEr_log (by omega)]; rfl)
                  refine lv_iinc (v := (((fo (m_oS G) w (m_oN nd G oil P ro)).1) + -1)) (lv' := [(2, .int (((fo (m_oS G) w (m_oN nd G oil P ro)).1) + -1)), (4, .int (nI w)), (3, .int (nI ro)), (0, .ref o), (1, .int oil)]) hx hb dX6_allocateOneByOne_64 hl (k := 2) rfl rfl (by decide) rfl (fun ls hl => ?_)
                  refine lv_iinc (v := (nI (w + 1))) (lv' := [(4, .int (nI (w + 1))), (2, .int (((fo (m_oS G) w (m_oN nd G oil P ro)).1) + -1)), (3, .int (nI ro)), (0, .ref o), (1, .int oil)]) hx hb dX6_allocateOneByOne_67 hl (k := 1) rfl (nI_1 _) (by decide) rfl (fun ls hl => ?_)
                  refine lv_goto (tgt := 16) hx hb dX6_allocateOneByOne_70 (by decide) ?_
                  have hst1 : (fo (m_oS G) (w + 1) (m_oN nd G oil P ro)).1 = (((fo (m_oS G) w (m_oN nd G oil P ro)).1) + -1) := by simp only [fo_s, m_oS, if_neg hneg, if_neg c_10, if_neg c_29, if_neg c_45]
                  have hst2 : (fo (m_oS G) (w + 1) (m_oN nd G oil P ro)).2 = u2 ((fo (m_oS G) w (m_oN nd G oil P ro)).2) (103 + 2 * w) 4 ((((fo (m_oS G) w (m_oN nd G oil P ro)).2) (103 + 2 * w) 4) + (1 : Int32)) := by simp only [fo_s, m_oS, if_neg hneg, if_neg c_10, if_neg c_29, if_neg c_45]
                  have hl : lv_has ls 5 [(4, .int (nI (w + 1))), (2, .int ((fo (m_oS G) (w + 1) (m_oN nd G oil P ro)).1)), (3, .int (nI ro)), (0, .ref o), (1, .int oil)] := by rw [hst1]; exact hl
                  exact ih16 (w + 1) _ _ _ (by omega) (lv_sub hl [0, 2, 1, 3, 4] rfl) ((by rw [hst2]; exact hP)) hS
          exact hloop16 nd 0 _ _ _ (by omega) (lv_sub hl [0, 1, 2, 3, 4] rfl) (hP) hS
    exact hloop4 oil.toNatClampNeg 0 _ _ _ (by omega) (lv_sub hl [0, 1, 2, 3] rfl) (hP) hS

set_option maxRecDepth 100000 in
set_option maxHeartbeats 4000000 in
/-- allocate -/
theorem c_X6_allocate (l : Launch) (D : va_G) (cy : Nat → ClassId) (lo n : Nat) (w0 : Nat → va_E) (o : Nat) (G T P : Mem) (ho1 : lo ≤ o) (ho2 : o + 118 ≤ lo + n) (nd : Nat) (hG : GI nd G) (oil : Int32) : Met l yX6_allocate wsX6_allocate ({ frames := 2, cells := 0, slots := 0, locals := 44 }) (PcW D cy lo n (gw cy (gw cy (hw cy w0 o P) (o + 50) T) (o + 1) G) [.ref o, .int oil]) (QvW D lo n (gw cy (gw cy (hw cy w0 o (m_alloc nd G oil P)) (o + 50) T) (o + 1) G)) 0 0 (fun q : Nat => lo ≤ q) := by
  refine Met.ofW (cc := cX6_allocate) (maxL := 6) (ret := none) (by decide) rfl ?_
  intro p e s m args below meth c s₁ B hml hv
  obtain ⟨rfl, hP, hK, hS⟩ := x_entry hv
  have hx := B.exec
  have hb := B.bytes
  have hr := B.returns
  have hts := atoms_spec (ws := wsX6_allocate) B.pre
  have hown : s.vm.findClass RX6 = some m.cls := findClass_of_methodNamed B.named
  have hlocks := B.notSynchronized
  have iX2 : ∀ w ∈ u_ws RX2 TX2 12, w ∈ wsX6_allocate := by decide +kernel
  have iX5 : ∀ w ∈ u_ws RX5 TX5 5, w ∈ wsX6_allocate := by decide +kernel
  have iX6 : ∀ w ∈ u_ws RX6 TX6 11, w ∈ wsX6_allocate := by decide +kernel
  have hl := lv_entry ([.ref o, .int oil]) (n := 6) (Nat.le_of_ble_eq_true rfl)
  rw [lg_entry_eq]
  generalize (lg_sl ([.ref o, .int oil]) ++ List.replicate (6 - (lg_sl ([.ref o, .int oil])).length) Slot.unset).toArray = ls at hl ⊢
  have hl : lv_has ls 6 [(0, .ref o), (1, .int oil)] := hl
  have hnd := hG.1
  refine lv_iconst (v := 0) hx hb dX6_allocate_0 (by decide) ?_
  refine lv_istore_n (lv' := [(2, .int (0 : Int32)), (0, .ref o), (1, .int oil)]) hx hb dX6_allocate_1 rfl hl (by decide) rfl (fun ls hl => ?_)
  refine lv_iconst (v := 0) hx hb dX6_allocate_2 (by decide) ?_
  refine lv_istore_n (lv' := [(3, .int (0 : Int32)), (2, .int (0 : Int32)), (0, .ref o), (1, .int oil)]) hx hb dX6_allocate_3 rfl hl (by decide) rfl (fun ls hl => ?_)
  have hloop4 : ∀ (w_r w : Nat) (H : Heap) (locs : List Loc) (ls : Array Slot), w + w_r = nd → lv_has ls 6 [(3, .int (nI w)), (2, .int (m_tested G P w)), (0, .ref o), (1, .int oil)] → va_P D vwCl (rl lo n (gw cy (gw cy (hw cy w0 o P) (o + 50) T) (o + 1) G)) H → va_S (fun q : Nat => lo ≤ q) s.heap H locs → W p l e (headSpec wsX6_allocate ({ frames := 2, cells := 0, slots := 0, locals := 44 })).room s m (([.ref o, .int oil] : List Value).toArray) below meth c H locs 0 0 (MQ below (QvW D lo n (gw cy (gw cy (hw cy w0 o (m_alloc nd G oil P)) (o + 50) T) (o + 1) G)) (([.ref o, .int oil] : List Value).toArray) s 0 0 (fun q : Nat => lo ≤ q)) (F0 m 4 ls []) := by
    intro w_r
    induction w_r with
    | zero =>
      intro w H locs ls hk4 hl hP hS
      have ew : w = nd := by omega
      rw [ew] at hl
      refine lv_iload_n hx hb dX6_allocate_4 rfl (lv_at hl 0 rfl) ?_
      refine lv_aload_n hx hb dX6_allocate_5 rfl (lv_at hl 2 rfl) ?_
      refine x_get (ref := RX6) (C := RX6) (T := TX6) (N := 11) (ci := 6) (v := .ref (o + 1)) hx hb hts iX6 hown hK.1 hP (by omega) (by omega) (((gw_out (by omega)).trans ((gw_out (by omega)).trans (hw_0)))) rfl 0 (by decide) (hts (.fieldLink RX6 10 "PoreField" "ground" "LPoreField$Ground;") (by decide +kernel)) (fun _ h9 => h9) rfl dX6_allocate_6 ?_
      refine x_get (ref := RX2) (C := RX2) (T := TX2) (N := 12) (ci := 2) (v := .int (G 0 2)) hx hb hts iX2 hown hK.1 hP (by omega) (by omega) (gw_0) rfl 2 (by decide) (hts (.fieldLink RX6 87 "PoreField$Ground" "drilled" "I") (by decide +kernel)) (fun _ h9 => h9) rfl dX6_allocate_9 ?_
      refine lv_icmp_ge (tgt := 50) hx hb dX6_allocate_12 (by decide) (fun _ => ?_) (fun c => absurd ((br_le (show (G 0 2) = nI nd from hG.dr) (show (nI nd) = nI nd from rfl) (by omega) (by omega)).mpr (by omega)) c)
      refine lv_iload_n hx hb dX6_allocate_50 rfl (lv_at hl 3 rfl) ?_
      refine lv_istore_n (lv' := [(3, .int oil), (2, .int (m_tested G P nd)), (0, .ref o), (1, .int oil)]) hx hb dX6_allocate_51 rfl hl (by decide) rfl (fun ls hl => ?_)
      refine lv_iconst (v := 0) hx hb dX6_allocate_52 (by decide) ?_
      refine lv_istore (lv' := [(4, .int (0 : Int32)), (3, .int oil), (2, .int (m_tested G P nd)), (0, .ref o), (1, .int oil)]) hx hb dX6_allocate_53 hl (by decide) rfl (fun ls hl => ?_)
      by_cases htd : m_tested G P nd ≤ 0
      · have ha1 : m_alloc1 nd G P oil = (oil, P) := if_pos htd
        refine lv_iload hx hb dX6_allocate_55 (lv_at hl 0 rfl) ?_
        refine lv_aload_n hx hb dX6_allocate_57 rfl (lv_at hl 3 rfl) ?_
        refine x_get (ref := RX6) (C := RX6) (T := TX6) (N := 11) (ci := 6) (v := .ref (o + 1)) hx hb hts iX6 hown hK.1 hP (by omega) (by omega) (((gw_out (by omega)).trans ((gw_out (by omega)).trans (hw_0)))) rfl 0 (by decide) (hts (.fieldLink RX6 10 "PoreField" "ground" "LPoreField$Ground;") (by decide +kernel)) (fun _ h9 => h9) rfl dX6_allocate_58 ?_
        refine x_get (ref := RX2) (C := RX2) (T := TX2) (N := 12) (ci := 2) (v := .int (G 0 2)) hx hb hts iX2 hown hK.1 hP (by omega) (by omega) (gw_0) rfl 2 (by decide) (hts (.fieldLink RX6 87 "PoreField$Ground" "drilled" "I") (by decide +kernel)) (fun _ h9 => h9) rfl dX6_allocate_61 ?_
        refine lv_icmp_ge (tgt := 133) hx hb dX6_allocate_64 (by decide) (fun c_64 => ?_) (fun c_64 => ?_)
        · refine lv_aload_n hx hb dX6_allocate_133 rfl (lv_at hl 3 rfl) ?_
          refine lv_iload_n hx hb dX6_allocate_134 rfl (lv_at hl 1 rfl) ?_
          refine x_callv (va_runV (As := [.int oil]) (rest := []) ⟨hx, hb, hml, hown, hts⟩ (c_X6_allocateOneByOne l D cy lo n w0 o G T P (by omega) (by omega) nd hG oil) (cwV 1 hts gX6_allocate_X6_allocateOneByOne rfl rfl rfl (by decide +kernel) ⟨Nat.le_of_ble_eq_true rfl, Nat.le_of_ble_eq_true rfl⟩) (preV hP hK (x_recv (ci := 6) (q := (RX6, TX6, 11)) hK.1 hP (by omega) (by omega) rfl (((gw_out (by omega)).trans ((gw_out (by omega)).trans (hw_0)))))) rfl rfl hl.1 rfl (lv_room (Nat.le_of_ble_eq_true rfl)) dX6_allocate_135 ⟨Nat.le_of_ble_eq_true rfl, Nat.le_of_ble_eq_true rfl⟩) hS (fun H locs hP hS => ?_)
          exact W.vret hx hb hr (fun tE ht hW => ⟨⟨(), rfl, trivial, x_at ht ((by unfold m_alloc; rw [ha1]; exact hP))⟩, hS.F ht⟩) hS.2.2 dX6_allocate_138
        · refine lv_iload_n hx hb dX6_allocate_67 rfl (lv_at hl 2 rfl) ?_
          refine lv_if_le (tgt := 133) hx hb dX6_allocate_68 (by decide) (fun _ => ?_) (fun c => absurd htd c)
          refine lv_aload_n hx hb dX6_allocate_133 rfl (lv_at hl 3 rfl) ?_
          refine lv_iload_n hx hb dX6_allocate_134 rfl (lv_at hl 1 rfl) ?_
          refine x_callv (va_runV (As := [.int oil]) (rest := []) ⟨hx, hb, hml, hown, hts⟩ (c_X6_allocateOneByOne l D cy lo n w0 o G T P (by omega) (by omega) nd hG oil) (cwV 1 hts gX6_allocate_X6_allocateOneByOne rfl rfl rfl (by decide +kernel) ⟨Nat.le_of_ble_eq_true rfl, Nat.le_of_ble_eq_true rfl⟩) (preV hP hK (x_recv (ci := 6) (q := (RX6, TX6, 11)) hK.1 hP (by omega) (by omega) rfl (((gw_out (by omega)).trans ((gw_out (by omega)).trans (hw_0)))))) rfl rfl hl.1 rfl (lv_room (Nat.le_of_ble_eq_true rfl)) dX6_allocate_135 ⟨Nat.le_of_ble_eq_true rfl, Nat.le_of_ble_eq_true rfl⟩) hS (fun H locs hP hS => ?_)
          exact W.vret hx hb hr (fun tE ht hW => ⟨⟨(), rfl, trivial, x_at ht ((by unfold m_alloc; rw [ha1]; exact hP))⟩, hS.F ht⟩) hS.2.2 dX6_allocate_138
      · have ha1 : m_alloc1 nd G P oil = fo (m_aS G oil (m_tested G P nd)) nd (oil, P) := if_neg htd
        have hloop55 : ∀ (w2_r w2 : Nat) (H : Heap) (locs : List Loc) (ls : Array Slot), w2 + w2_r = nd → lv_has ls 6 [(4, .int (nI w2)), (3, .int ((fo (m_aS G oil (m_tested G P nd)) w2 (oil, P)).1)), (2, .int (m_tested G P nd)), (0, .ref o), (1, .int oil)] → va_P D vwCl (rl lo n (gw cy (gw cy (hw cy w0 o ((fo (m_aS G oil (m_tested G P nd)) w2 (oil, P)).2)) (o + 50) T) (o + 1) G)) H → va_S (fun q : Nat => lo ≤ q) s.heap H locs → W p l e (headSpec wsX6_allocate ({ frames := 2, cells := 0, slots := 0, locals := 44 })).room s m (([.ref o, .int oil] : List Value).toArray) below meth c H locs 0 0 (MQ below (QvW D lo n (gw cy (gw cy (hw cy w0 o (m_alloc nd G oil P)) (o + 50) T) (o + 1) G)) (([.ref o, .int oil] : List Value).toArray) s 0 0 (fun q : Nat => lo ≤ q)) (F0 m 55 ls []) := by
          intro w2_r
          induction w2_r with
          | zero =>
            intro w2 H locs ls hk55 hl hP hS
            have ew2 : w2 = nd := by omega
            rw [ew2] at hP
            rw [ew2] at hl
            refine lv_iload hx hb dX6_allocate_55 (lv_at hl 0 rfl) ?_
            refine lv_aload_n hx hb dX6_allocate_57 rfl (lv_at hl 3 rfl) ?_
            refine x_get (ref := RX6) (C := RX6) (T := TX6) (N := 11) (ci := 6) (v := .ref (o + 1)) hx hb hts iX6 hown hK.1 hP (by omega) (by omega) (((gw_out (by omega)).trans ((gw_out (by omega)).trans (hw_0)))) rfl 0 (by decide) (hts (.fieldLink RX6 10 "PoreField" "ground" "LPoreField$Ground;") (by decide +kernel)) (fun _ h9 => h9) rfl dX6_allocate_58 ?_
            refine x_get (ref := RX2) (C := RX2) (T := TX2) (N := 12) (ci := 2) (v := .int (G 0 2)) hx hb hts iX2 hown hK.1 hP (by omega) (by omega) (gw_0) rfl 2 (by decide) (hts (.fieldLink RX6 87 "PoreField$Ground" "drilled" "I") (by decide +kernel)) (fun _ h9 => h9) rfl dX6_allocate_61 ?_
            refine lv_icmp_ge (tgt := 133) hx hb dX6_allocate_64 (by decide) (fun _ => ?_) (fun c => absurd ((br_le (show (G 0 2) = nI nd from hG.dr) (show (nI nd) = nI nd from rfl) (by omega) (by omega)).mpr (by omega)) c)
            refine lv_aload_n hx hb dX6_allocate_133 rfl (lv_at hl 3 rfl) ?_
            refine lv_iload_n hx hb dX6_allocate_134 rfl (lv_at hl 1 rfl) ?_
            refine x_callv (va_runV (As := [.int ((fo (m_aS G oil (m_tested G P nd)) nd (oil, P)).1)]) (rest := []) ⟨hx, hb, hml, hown, hts⟩ (c_X6_allocateOneByOne l D cy lo n w0 o G T ((fo (m_aS G oil (m_tested G P nd)) nd (oil, P)).2) (by omega) (by omega) nd hG ((fo (m_aS G oil (m_tested G P nd)) nd (oil, P)).1)) (cwV 1 hts gX6_allocate_X6_allocateOneByOne rfl rfl rfl (by decide +kernel) ⟨Nat.le_of_ble_eq_true rfl, Nat.le_of_ble_eq_true rfl⟩) (preV hP hK (x_recv (ci := 6) (q := (RX6, TX6, 11)) hK.1 hP (by omega) (by omega) rfl (((gw_out (by omega)).trans ((gw_out (by omega)).trans (hw_0)))))) rfl rfl hl.1 rfl (lv_room (Nat.le_of_ble_eq_true rfl)) dX6_allocate_135 ⟨Nat.le_of_ble_eq_true rfl, Nat.le_of_ble_eq_true rfl⟩) hS (fun H locs hP hS => ?_)
            exact W.vret hx hb hr (fun tE ht hW => ⟨⟨(), rfl, trivial, x_at ht ((by unfold m_alloc; rw [ha1]; exact hP))⟩, hS.F ht⟩) hS.2.2 dX6_allocate_138
          | succ w2_r ih55 =>
            intro w2 H locs ls hk55 hl hP hS
            refine lv_iload hx hb dX6_allocate_55 (lv_at hl 0 rfl) ?_
            refine lv_aload_n hx hb dX6_allocate_57 rfl (lv_at hl 3 rfl) ?_
            refine x_get (ref := RX6) (C := RX6) (T := TX6) (N := 11) (ci := 6) (v := .ref (o + 1)) hx hb hts iX6 hown hK.1 hP (by omega) (by omega) (((gw_out (by omega)).trans ((gw_out (by omega)).trans (hw_0)))) rfl 0 (by decide) (hts (.fieldLink RX6 10 "PoreField" "ground" "LPoreField$Ground;") (by decide +kernel)) (fun _ h9 => h9) rfl dX6_allocate_58 ?_
            refine x_get (ref := RX2) (C := RX2) (T := TX2) (N := 12) (ci := 2) (v := .int (G 0 2)) hx hb hts iX2 hown hK.1 hP (by omega) (by omega) (gw_0) rfl 2 (by decide) (hts (.fieldLink RX6 87 "PoreField$Ground" "drilled" "I") (by decide +kernel)) (fun _ h9 => h9) rfl dX6_allocate_61 ?_
            refine lv_icmp_ge (tgt := 133) hx hb dX6_allocate_64 (by decide) (fun c => absurd ((br_le (show (G 0 2) = nI nd from hG.dr) (show (nI w2) = nI w2 from rfl) (by omega) (by omega)).mp c) (by omega)) (fun _ => ?_)
            refine lv_iload_n hx hb dX6_allocate_67 rfl (lv_at hl 2 rfl) ?_
            refine lv_if_le (tgt := 133) hx hb dX6_allocate_68 (by decide) (fun c => absurd c htd) (fun _ => ?_)
            refine lv_aload_n hx hb dX6_allocate_71 rfl (lv_at hl 3 rfl) ?_
            refine x_get (ref := RX6) (C := RX6) (T := TX6) (N := 11) (ci := 6) (v := .ref (o + 1)) hx hb hts iX6 hown hK.1 hP (by omega) (by omega) (((gw_out (by omega)).trans ((gw_out (by omega)).trans (hw_0)))) rfl 0 (by decide) (hts (.fieldLink RX6 10 "PoreField" "ground" "LPoreField$Ground;") (by decide +kernel)) (fun _ h9 => h9) rfl dX6_allocate_72 ?_
            refine x_get (ref := RX2) (C := RX2) (T := TX2) (N := 12) (ci := 2) (v := .ref ((o + 1) + 2)) hx hb hts iX2 hown hK.1 hP (by omega) (by omega) (gw_0) rfl 1 (by decide) (hts (.fieldLink RX6 97 "PoreField$Ground" "wells" "[LPoreField$Well;") (by decide +kernel)) (fun _ h9 => h9) rfl dX6_allocate_75 ?_
            refine lv_iload hx hb dX6_allocate_78 (lv_at hl 0 rfl) ?_
            refine x_aald (b := ((o + 1) + (37 + 2 * w2))) hx hb hK.1 hP (by omega) (by omega) 2 (gw_2) rfl (cl_of_nI (i := w2) rfl (by omega)) rfl (vp_in_of_nI (i := w2) rfl (by omega) (by omega)) dX6_allocate_80 ?_
            refine x_calli (va_runV (As := []) (rest := []) ⟨hx, hb, hml, hown, hts⟩ (c_X4_hasProduced l D cy lo n (gw cy (hw cy w0 o ((fo (m_aS G oil (m_tested G P nd)) w2 (oil, P)).2)) (o + 50) T) (o + 1) G (by omega) (by omega) w2 (by omega)) (cwV 0 hts gX6_allocate_X4_hasProduced rfl rfl rfl (by decide +kernel) ⟨Nat.le_of_ble_eq_true rfl, Nat.le_of_ble_eq_true rfl⟩) (preV hP hK (x_recv (ci := 4) (q := (RX4, TX4, 5)) hK.1 hP (by omega) (by omega) rfl (gw_well (by omega)))) rfl rfl hl.1 rfl (lv_room (Nat.le_of_ble_eq_true rfl)) dX6_allocate_81 ⟨Nat.le_of_ble_eq_true rfl, Nat.le_of_ble_eq_true rfl⟩) hS (fun H locs hP hS => ?_)
            refine lv_if_eq (tgt := 127) hx hb dX6_allocate_84 (by decide) (fun c_84 => ?_) (fun c_84 => ?_)
            · refine lv_iinc (v := (nI (w2 + 1))) (lv' := [(4, .int (nI (w2 + 1))), (3, .int ((fo (m_aS G oil (m_tested G P nd)) w2 (oil, P)).1)), (2, .int (m_tested G P nd)), (0, .ref o), (1, .int oil)]) hx hb dX6_allocate_127 hl (k := 0) rfl (nI_1 _) (by decide) rfl (fun ls hl => ?_)
              refine lv_goto (tgt := 55) hx hb dX6_allocate_130 (by decide) ?_
              have hst1 : (fo (m_aS G oil (m_tested G P nd)) (w2 + 1) (oil, P)).1 = ((fo (m_aS G oil (m_tested G P nd)) w2 (oil, P)).1) := by simp only [fo_s, m_aS, if_neg htd, if_pos c_84]
              have hst2 : (fo (m_aS G oil (m_tested G P nd)) (w2 + 1) (oil, P)).2 = (fo (m_aS G oil (m_tested G P nd)) w2 (oil, P)).2 := by simp only [fo_s, m_aS, if_neg htd, if_pos c_84]
              have hl : lv_has ls 6 [(4, .int (nI (w2 + 1))), (3, .int ((fo (m_aS G oil (m_tested G P nd)) (w2 + 1) (oil, P)).1)), (2, .int (m_tested G P nd)), (0, .ref o), (1, .int oil)] := by rw [hst1]; exact hl
              exact ih55 (w2 + 1) _ _ _ (by omega) (lv_sub hl [0, 1, 2, 3, 4] rfl) ((by rw [hst2]; exact hP)) hS
            · refine lv_iload_n hx hb dX6_allocate_87 rfl (lv_at hl 4 rfl) ?_
              refine lv_aload_n hx hb dX6_allocate_88 rfl (lv_at hl 3 rfl) ?_
              refine x_get (ref := RX6) (C := RX6) (T := TX6) (N := 11) (ci := 6) (v := .ref (o + 99)) hx hb hts iX6 hown hK.1 hP (by omega) (by omega) (((gw_out (by omega)).trans ((gw_out (by omega)).trans (hw_0)))) rfl 2 (by decide) (hts (.fieldLink RX6 21 "PoreField" "logs" "[LPoreField$WellLog;") (by decide +kernel)) (fun _ h9 => h9) rfl dX6_allocate_89 ?_
              refine lv_iload hx hb dX6_allocate_92 (lv_at hl 0 rfl) ?_
              refine x_aald (b := (o + (103 + 2 * w2))) hx hb hK.1 hP (by omega) (by omega) 3 (((gw_out (by omega)).trans ((gw_out (by omega)).trans (hw_99)))) rfl (cl_of_nI (i := w2) rfl (by omega)) rfl (vp_in_of_nI (i := w2) rfl (by omega) (by omega)) dX6_allocate_94 ?_
              refine x_get (ref := RX5) (C := RX5) (T := TX5) (N := 5) (ci := 5) (v := .ref (o + (104 + 2 * w2))) hx hb hts iX5 hown hK.1 hP (by omega) (by omega) (((gw_out (by omega)).trans ((gw_out (by omega)).trans (hw_log (by omega))))) rfl 2 (by decide) (hts (.fieldLink RX6 205 "PoreField$WellLog" "test" "[I") (by decide +kernel)) (fun _ h9 => h9) rfl dX6_allocate_95 ?_
              refine lv_iconst (v := 0) hx hb dX6_allocate_98 (by decide) ?_
              refine x_iald hx hb hK.1 hP (by omega) (by omega) 0 (((gw_out (by omega)).trans ((gw_out (by omega)).trans (hw_row (hRow_test (by omega)))))) rfl (cl_of_nI (i := 0) rfl (by omega)) (vp_in_of_nI (i := 0) rfl (by omega) (by omega)) dX6_allocate_99 ?_
              refine lv_imul hx hb dX6_allocate_100 ?_
              refine lv_iload_n hx hb dX6_allocate_101 rfl (lv_at hl 2 rfl) ?_
              refine lv_idiv hx hb dX6_allocate_102 (fun q => htd (by rw [q]; decide)) ?_
              refine lv_istore (lv' := [(5, .int ((oil * (((fo (m_aS G oil (m_tested G P nd)) w2 (oil, P)).2) (104 + 2 * w2) 0)) / (m_tested G P nd))), (4, .int (nI w2)), (3, .int ((fo (m_aS G oil (m_tested G P nd)) w2 (oil, P)).1)), (2, .int (m_tested G P nd)), (0, .ref o), (1, .int oil)]) hx hb dX6_allocate_103 hl (by decide) rfl (fun ls hl => ?_)
              refine lv_aload_n hx hb dX6_allocate_105 rfl (lv_at hl 4 rfl) ?_
              refine x_get (ref := RX6) (C := RX6) (T := TX6) (N := 11) (ci := 6) (v := .ref (o + 99)) hx hb hts iX6 hown hK.1 hP (by omega) (by omega) (((gw_out (by omega)).trans ((gw_out (by omega)).trans (hw_0)))) rfl 2 (by decide) (hts (.fieldLink RX6 21 "PoreField" "logs" "[LPoreField$WellLog;") (by decide +kernel)) (fun _ h9 => h9) rfl dX6_allocate_106 ?_
              refine lv_iload hx hb dX6_allocate_109 (lv_at hl 1 rfl) ?_
              refine x_aald (b := (o + (103 + 2 * w2))) hx hb hK.1 hP (by omega) (by omega) 3 (((gw_out (by omega)).trans ((gw_out (by omega)).trans (hw_99)))) rfl (cl_of_nI (i := w2) rfl (by omega)) rfl (vp_in_of_nI (i := w2) rfl (by omega) (by omega)) dX6_allocate_111 ?_
              refine lv_dup hx hb dX6_allocate_112 rfl ?_
              refine x_get (ref := RX5) (C := RX5) (T := TX5) (N := 5) (ci := 5) (v := .int (((fo (m_aS G oil (m_tested G P nd)) w2 (oil, P)).2) (103 + 2 * w2) 4)) hx hb hts iX5 hown hK.1 hP (by omega) (by omega) (((gw_out (by omega)).trans ((gw_out (by omega)).trans (hw_log (by omega))))) rfl 4 (by decide) (hts (.fieldLink RX6 214 "PoreField$WellLog" "allocatedEver" "I") (by decide +kernel)) (fun _ h9 => h9) rfl dX6_allocate_113 ?_
              refine lv_iload hx hb dX6_allocate_116 (lv_at hl 0 rfl) ?_
              refine lv_iadd hx hb dX6_allocate_118 ?_
              refine x_put (ty := .int) (ref := RX5) (C := RX5) (T := TX5) (N := 5) (ci := 5) (v := .int ((((fo (m_aS G oil (m_tested G P nd)) w2 (oil, P)).2) (103 + 2 * w2) 4) + ((oil * (((fo (m_aS G oil (m_tested G P nd)) w2 (oil, P)).2) (104 + 2 * w2) 0)) / (m_tested G P nd)))) hx hb hts iX5 tyX5 tyX5_ok nmX5 hown hK.1 hP hS (by omega) (by omega) (((gw_out (by omega)).trans ((gw_out (by omega)).trans (hw_log (by omega))))) rfl 4 (by decide) (hts (.fieldLink RX6 214 "PoreField$WellLog" "allocatedEver" "I") (by decide +kernel)) (fun _ h9 => h9) rfl (by decide +kernel) rfl rfl (Nat.le_of_ble_eq_true rfl) dX6_allocate_119 (fun H locs hP hS => ?_)
              have hP := hp2 (k := 103 + 2 * w2) (j := 4) (v := ((((fo (m_aS G oil (m_tested G P nd)) w2 (oil, P)).2) (103 + 2 * w2) 4) + ((oil * (((fo (m_aS G oil (m_tested G P nd)) w2 (oil, P)).2) (104 + 2 * w2) 0)) / (m_tested G P nd)))) hP (by omega) (by omega) (by omega) (by rw [hEr_log (by omega)]; rfl)
              refine lv_iload_n hx hb dX6_allocate_122 rfl (lv_at hl 2 rfl) ?_
              refine lv_iload hx hb dX6_allocate_123 (lv_at hl 0 rfl) ?_
              refine lv_isub hx hb dX6_allocate_125 ?_
              refine lv_istore_n (lv' := [(3, .int (((fo (m_aS G oil (m_tested G P nd)) w2 (oil, P)).1) - ((oil * (((fo (m_aS G oil (m_tested G P nd)) w2 (oil, P)).2) (104 + 2 * w2) 0)) / (m_tested G P nd)))), (5, .int ((oil * (((fo (m_aS G oil (m_tested G P nd)) w2 (oil, P)).2) (104 + 2 * w2) 0)) / (m_tested G P nd))), (4, .int (nI w2)), (2, .int (m_tested G P nd)), (0, .ref o), (1, .int oil)]) hx hb dX6_allocate_126 rfl hl (by decide) rfl (fun ls hl => ?_)
              refine lv_iinc (v := (nI (w2 + 1))) (lv' := [(4, .int (nI (w2 + 1))), (3, .int (((fo (m_aS G oil (m_tested G P nd)) w2 (oil, P)).1) - ((oil * (((fo (m_aS G oil (m_tested G P nd)) w2 (oil, P)).2) (104 + 2 * w2) 0)) / (m_tested G P nd)))), (5, .int ((oil * (((fo (m_aS G oil (m_tested G P nd)) w2 (oil, P)).2) (104 + 2 * w2) 0)) / (m_tested G P nd))), (2, .int (m_tested G P nd)), (0, .ref o), (1, .int oil)]) hx hb dX6_allocate_127 hl (k := 2) rfl (nI_1 _) (by decide) rfl (fun ls hl => ?_)
              refine lv_goto (tgt := 55) hx hb dX6_allocate_130 (by decide) ?_
              have hst1 : (fo (m_aS G oil (m_tested G P nd)) (w2 + 1) (oil, P)).1 = (((fo (m_aS G oil (m_tested G P nd)) w2 (oil, P)).1) - ((oil * (((fo (m_aS G oil (m_tested G P nd)) w2 (oil, P)).2) (104 + 2 * w2) 0)) / (m_tested G P nd))) := by simp only [fo_s, m_aS, if_neg htd, if_neg c_84]
              have hst2 : (fo (m_aS G oil (m_tested G P nd)) (w2 + 1) (oil, P)).2 = u2 ((fo (m_aS G oil (m_tested G P nd)) w2 (oil, P)).2) (103 + 2 * w2) 4 ((((fo (m_aS G oil (m_tested G P nd)) w2 (oil, P)).2) (103 + 2 * w2) 4) + ((oil * (((fo (m_aS G oil (m_tested G P nd)) w2 (oil, P)).2) (104 + 2 * w2) 0)) / (m_tested G P nd))) := by simp only [fo_s, m_aS, if_neg htd, if_neg c_84]
              have hl : lv_has ls 6 [(4, .int (nI (w2 + 1))), (3, .int ((fo (m_aS G oil (m_tested G P nd)) (w2 + 1) (oil, P)).1)), (5, .int ((oil * (((fo (m_aS G oil (m_tested G P nd)) w2 (oil, P)).2) (104 + 2 * w2) 0)) / (m_tested G P nd))), (2, .int (m_tested G P nd)), (0, .ref o), (1, .int oil)] := by rw [hst1]; exact hl
              exact ih55 (w2 + 1) _ _ _ (by omega) (lv_sub hl [0, 1, 3, 4, 5] rfl) ((by rw [hst2]; exact hP)) hS
        exact hloop55 nd 0 _ _ _ (by omega) (lv_sub hl [0, 1, 2, 3, 4] rfl) (hP) hS
    | succ w_r ih4 =>
      intro w H locs ls hk4 hl hP hS
      refine lv_iload_n hx hb dX6_allocate_4 rfl (lv_at hl 0 rfl) ?_
      refine lv_aload_n hx hb dX6_allocate_5 rfl (lv_at hl 2 rfl) ?_
      refine x_get (ref := RX6) (C := RX6) (T := TX6) (N := 11) (ci := 6) (v := .ref (o + 1)) hx hb hts iX6 hown hK.1 hP (by omega) (by omega) (((gw_out (by omega)).trans ((gw_out (by omega)).trans (hw_0)))) rfl 0 (by decide) (hts (.fieldLink RX6 10 "PoreField" "ground" "LPoreField$Ground;") (by decide +kernel)) (fun _ h9 => h9) rfl dX6_allocate_6 ?_
      refine x_get (ref := RX2) (C := RX2) (T := TX2) (N := 12) (ci := 2) (v := .int (G 0 2)) hx hb hts iX2 hown hK.1 hP (by omega) (by omega) (gw_0) rfl 2 (by decide) (hts (.fieldLink RX6 87 "PoreField$Ground" "drilled" "I") (by decide +kernel)) (fun _ h9 => h9) rfl dX6_allocate_9 ?_
      refine lv_icmp_ge (tgt := 50) hx hb dX6_allocate_12 (by decide) (fun c => absurd ((br_le (show (G 0 2) = nI nd from hG.dr) (show (nI w) = nI w from rfl) (by omega) (by omega)).mp c) (by omega)) (fun _ => ?_)
      refine lv_aload_n hx hb dX6_allocate_15 rfl (lv_at hl 2 rfl) ?_
      refine x_get (ref := RX6) (C := RX6) (T := TX6) (N := 11) (ci := 6) (v := .ref (o + 1)) hx hb hts iX6 hown hK.1 hP (by omega) (by omega) (((gw_out (by omega)).trans ((gw_out (by omega)).trans (hw_0)))) rfl 0 (by decide) (hts (.fieldLink RX6 10 "PoreField" "ground" "LPoreField$Ground;") (by decide +kernel)) (fun _ h9 => h9) rfl dX6_allocate_16 ?_
      refine x_get (ref := RX2) (C := RX2) (T := TX2) (N := 12) (ci := 2) (v := .ref ((o + 1) + 2)) hx hb hts iX2 hown hK.1 hP (by omega) (by omega) (gw_0) rfl 1 (by decide) (hts (.fieldLink RX6 97 "PoreField$Ground" "wells" "[LPoreField$Well;") (by decide +kernel)) (fun _ h9 => h9) rfl dX6_allocate_19 ?_
      refine lv_iload_n hx hb dX6_allocate_22 rfl (lv_at hl 0 rfl) ?_
      refine x_aald (b := ((o + 1) + (37 + 2 * w))) hx hb hK.1 hP (by omega) (by omega) 2 (gw_2) rfl (cl_of_nI (i := w) rfl (by omega)) rfl (vp_in_of_nI (i := w) rfl (by omega) (by omega)) dX6_allocate_23 ?_
      refine x_calli (va_runV (As := []) (rest := []) ⟨hx, hb, hml, hown, hts⟩ (c_X4_hasProduced l D cy lo n (gw cy (hw cy w0 o P) (o + 50) T) (o + 1) G (by omega) (by omega) w (by omega)) (cwV 0 hts gX6_allocate_X4_hasProduced rfl rfl rfl (by decide +kernel) ⟨Nat.le_of_ble_eq_true rfl, Nat.le_of_ble_eq_true rfl⟩) (preV hP hK (x_recv (ci := 4) (q := (RX4, TX4, 5)) hK.1 hP (by omega) (by omega) rfl (gw_well (by omega)))) rfl rfl hl.1 rfl (lv_room (Nat.le_of_ble_eq_true rfl)) dX6_allocate_24 ⟨Nat.le_of_ble_eq_true rfl, Nat.le_of_ble_eq_true rfl⟩) hS (fun H locs hP hS => ?_)
      refine lv_if_eq (tgt := 44) hx hb dX6_allocate_27 (by decide) (fun c_27 => ?_) (fun c_27 => ?_)
      · refine lv_iinc (v := (nI (w + 1))) (lv' := [(3, .int (nI (w + 1))), (2, .int (m_tested G P w)), (0, .ref o), (1, .int oil)]) hx hb dX6_allocate_44 hl (k := 0) rfl (nI_1 _) (by decide) rfl (fun ls hl => ?_)
        refine lv_goto (tgt := 4) hx hb dX6_allocate_47 (by decide) ?_
        have hst1 : m_tested G P (w + 1) = (m_tested G P w) := by simp only [m_tested, fo_s, m_tstS, if_pos c_27]
        have hl : lv_has ls 6 [(3, .int (nI (w + 1))), (2, .int (m_tested G P (w + 1))), (0, .ref o), (1, .int oil)] := by rw [hst1]; exact hl
        exact ih4 (w + 1) _ _ _ (by omega) (lv_sub hl [0, 1, 2, 3] rfl) (hP) hS
      · refine lv_iload_n hx hb dX6_allocate_30 rfl (lv_at hl 1 rfl) ?_
        refine lv_aload_n hx hb dX6_allocate_31 rfl (lv_at hl 2 rfl) ?_
        refine x_get (ref := RX6) (C := RX6) (T := TX6) (N := 11) (ci := 6) (v := .ref (o + 99)) hx hb hts iX6 hown hK.1 hP (by omega) (by omega) (((gw_out (by omega)).trans ((gw_out (by omega)).trans (hw_0)))) rfl 2 (by decide) (hts (.fieldLink RX6 21 "PoreField" "logs" "[LPoreField$WellLog;") (by decide +kernel)) (fun _ h9 => h9) rfl dX6_allocate_32 ?_
        refine lv_iload_n hx hb dX6_allocate_35 rfl (lv_at hl 0 rfl) ?_
        refine x_aald (b := (o + (103 + 2 * w))) hx hb hK.1 hP (by omega) (by omega) 3 (((gw_out (by omega)).trans ((gw_out (by omega)).trans (hw_99)))) rfl (cl_of_nI (i := w) rfl (by omega)) rfl (vp_in_of_nI (i := w) rfl (by omega) (by omega)) dX6_allocate_36 ?_
        refine x_get (ref := RX5) (C := RX5) (T := TX5) (N := 5) (ci := 5) (v := .ref (o + (104 + 2 * w))) hx hb hts iX5 hown hK.1 hP (by omega) (by omega) (((gw_out (by omega)).trans ((gw_out (by omega)).trans (hw_log (by omega))))) rfl 2 (by decide) (hts (.fieldLink RX6 205 "PoreField$WellLog" "test" "[I") (by decide +kernel)) (fun _ h9 => h9) rfl dX6_allocate_37 ?_
        refine lv_iconst (v := 0) hx hb dX6_allocate_40 (by decide) ?_
        refine x_iald hx hb hK.1 hP (by omega) (by omega) 0 (((gw_out (by omega)).trans ((gw_out (by omega)).trans (hw_row (hRow_test (by omega)))))) rfl (cl_of_nI (i := 0) rfl (by omega)) (vp_in_of_nI (i := 0) rfl (by omega) (by omega)) dX6_allocate_41 ?_
        refine lv_iadd hx hb dX6_allocate_42 ?_
        refine lv_istore_n (lv' := [(2, .int ((m_tested G P w) + (P (104 + 2 * w) 0))), (3, .int (nI w)), (0, .ref o), (1, .int oil)]) hx hb dX6_allocate_43 rfl hl (by decide) rfl (fun ls hl => ?_)
        refine lv_iinc (v := (nI (w + 1))) (lv' := [(3, .int (nI (w + 1))), (2, .int ((m_tested G P w) + (P (104 + 2 * w) 0))), (0, .ref o), (1, .int oil)]) hx hb dX6_allocate_44 hl (k := 1) rfl (nI_1 _) (by decide) rfl (fun ls hl => ?_)
        refine lv_goto (tgt := 4) hx hb dX6_allocate_47 (by decide) ?_
        have hst1 : m_tested G P (w + 1) = ((m_tested G P w) + (P (104 + 2 * w) 0)) := by simp only [m_tested, fo_s, m_tstS, if_neg c_27]
        have hl : lv_has ls 6 [(3, .int (nI (w + 1))), (2, .int (m_tested G P (w + 1))), (0, .ref o), (1, .int oil)] := by rw [hst1]; exact hl
        exact ih4 (w + 1) _ _ _ (by omega) (lv_sub hl [0, 1, 2, 3] rfl) (hP) hS
  exact hloop4 nd 0 _ _ _ (by omega) (lv_sub hl [0, 1, 2, 3] rfl) (hP) hS

set_option maxRecDepth 100000 in
set_option maxHeartbeats 4000000 in
/-- keepTests -/
theorem c_X6_keepTests (l : Launch) (D : va_G) (cy : Nat → ClassId) (lo n : Nat) (w0 : Nat → va_E) (o : Nat) (G T P : Mem) (ho1 : lo ≤ o) (ho2 : o + 118 ≤ lo + n) (nd : Nat) (hG : GI nd G)  : Met l yX6_keepTests wsX6_keepTests ({ frames := 1, cells := 0, slots := 0, locals := 80 }) (PcW D cy lo n (gw cy (gw cy (hw cy w0 o P) (o + 50) T) (o + 1) G) [.ref o]) (QvW D lo n (gw cy (gw cy (hw cy w0 o (m_keep nd G P)) (o + 50) T) (o + 1) G)) 0 0 (fun q : Nat => lo ≤ q) := by
  refine Met.ofW (cc := cX6_keepTests) (maxL := 2) (ret := none) (by decide) rfl ?_
  intro p e s m args below meth c s₁ B hml hv
  obtain ⟨rfl, hP, hK, hS⟩ := x_entry hv
  have hx := B.exec
  have hb := B.bytes
  have hr := B.returns
  have hts := atoms_spec (ws := wsX6_keepTests) B.pre
  have hown : s.vm.findClass RX6 = some m.cls := findClass_of_methodNamed B.named
  have hlocks := B.notSynchronized
  have iX2 : ∀ w ∈ u_ws RX2 TX2 12, w ∈ wsX6_keepTests := by decide +kernel
  have iX4 : ∀ w ∈ u_ws RX4 TX4 5, w ∈ wsX6_keepTests := by decide +kernel
  have iX5 : ∀ w ∈ u_ws RX5 TX5 5, w ∈ wsX6_keepTests := by decide +kernel
  have iX6 : ∀ w ∈ u_ws RX6 TX6 11, w ∈ wsX6_keepTests := by decide +kernel
  have hl := lv_entry ([.ref o]) (n := 2) (Nat.le_of_ble_eq_true rfl)
  rw [lg_entry_eq]
  generalize (lg_sl ([.ref o]) ++ List.replicate (2 - (lg_sl ([.ref o])).length) Slot.unset).toArray = ls at hl ⊢
  have hl : lv_has ls 2 [(0, .ref o)] := hl
  have hnd := hG.1
  refine lv_iconst (v := 0) hx hb dX6_keepTests_0 (by decide) ?_
  refine lv_istore_n (lv' := [(1, .int (0 : Int32)), (0, .ref o)]) hx hb dX6_keepTests_1 rfl hl (by decide) rfl (fun ls hl => ?_)
  have hloop2 : ∀ (w_r w : Nat) (H : Heap) (locs : List Loc) (ls : Array Slot), w + w_r = nd → lv_has ls 2 [(1, .int (nI w)), (0, .ref o)] → va_P D vwCl (rl lo n (gw cy (gw cy (hw cy w0 o (fo (m_kS G) w P)) (o + 50) T) (o + 1) G)) H → va_S (fun q : Nat => lo ≤ q) s.heap H locs → W p l e (headSpec wsX6_keepTests ({ frames := 1, cells := 0, slots := 0, locals := 80 })).room s m (([.ref o] : List Value).toArray) below meth c H locs 0 0 (MQ below (QvW D lo n (gw cy (gw cy (hw cy w0 o (m_keep nd G P)) (o + 50) T) (o + 1) G)) (([.ref o] : List Value).toArray) s 0 0 (fun q : Nat => lo ≤ q)) (F0 m 2 ls []) := by
    intro w_r
    induction w_r with
    | zero =>
      intro w H locs ls hk2 hl hP hS
      have ew : w = nd := by omega
      rw [ew] at hP
      rw [ew] at hl
      refine lv_iload_n hx hb dX6_keepTests_2 rfl (lv_at hl 0 rfl) ?_
      refine lv_aload_n hx hb dX6_keepTests_3 rfl (lv_at hl 1 rfl) ?_
      refine x_get (ref := RX6) (C := RX6) (T := TX6) (N := 11) (ci := 6) (v := .ref (o + 1)) hx hb hts iX6 hown hK.1 hP (by omega) (by omega) (((gw_out (by omega)).trans ((gw_out (by omega)).trans (hw_0)))) rfl 0 (by decide) (hts (.fieldLink RX6 10 "PoreField" "ground" "LPoreField$Ground;") (by decide +kernel)) (fun _ h9 => h9) rfl dX6_keepTests_4 ?_
      refine x_get (ref := RX2) (C := RX2) (T := TX2) (N := 12) (ci := 2) (v := .int (G 0 2)) hx hb hts iX2 hown hK.1 hP (by omega) (by omega) (gw_0) rfl 2 (by decide) (hts (.fieldLink RX6 87 "PoreField$Ground" "drilled" "I") (by decide +kernel)) (fun _ h9 => h9) rfl dX6_keepTests_7 ?_
      refine lv_icmp_ge (tgt := 68) hx hb dX6_keepTests_10 (by decide) (fun _ => ?_) (fun c => absurd ((br_le (show (G 0 2) = nI nd from hG.dr) (show (nI nd) = nI nd from rfl) (by omega) (by omega)).mpr (by omega)) c)
      exact W.vret hx hb hr (fun tE ht hW => ⟨⟨(), rfl, trivial, x_at ht (hP)⟩, hS.F ht⟩) hS.2.2 dX6_keepTests_68
    | succ w_r ih2 =>
      intro w H locs ls hk2 hl hP hS
      refine lv_iload_n hx hb dX6_keepTests_2 rfl (lv_at hl 0 rfl) ?_
      refine lv_aload_n hx hb dX6_keepTests_3 rfl (lv_at hl 1 rfl) ?_
      refine x_get (ref := RX6) (C := RX6) (T := TX6) (N := 11) (ci := 6) (v := .ref (o + 1)) hx hb hts iX6 hown hK.1 hP (by omega) (by omega) (((gw_out (by omega)).trans ((gw_out (by omega)).trans (hw_0)))) rfl 0 (by decide) (hts (.fieldLink RX6 10 "PoreField" "ground" "LPoreField$Ground;") (by decide +kernel)) (fun _ h9 => h9) rfl dX6_keepTests_4 ?_
      refine x_get (ref := RX2) (C := RX2) (T := TX2) (N := 12) (ci := 2) (v := .int (G 0 2)) hx hb hts iX2 hown hK.1 hP (by omega) (by omega) (gw_0) rfl 2 (by decide) (hts (.fieldLink RX6 87 "PoreField$Ground" "drilled" "I") (by decide +kernel)) (fun _ h9 => h9) rfl dX6_keepTests_7 ?_
      refine lv_icmp_ge (tgt := 68) hx hb dX6_keepTests_10 (by decide) (fun c => absurd ((br_le (show (G 0 2) = nI nd from hG.dr) (show (nI w) = nI w from rfl) (by omega) (by omega)).mp c) (by omega)) (fun _ => ?_)
      refine lv_aload_n hx hb dX6_keepTests_13 rfl (lv_at hl 1 rfl) ?_
      refine x_get (ref := RX6) (C := RX6) (T := TX6) (N := 11) (ci := 6) (v := .ref (o + 99)) hx hb hts iX6 hown hK.1 hP (by omega) (by omega) (((gw_out (by omega)).trans ((gw_out (by omega)).trans (hw_0)))) rfl 2 (by decide) (hts (.fieldLink RX6 21 "PoreField" "logs" "[LPoreField$WellLog;") (by decide +kernel)) (fun _ h9 => h9) rfl dX6_keepTests_14 ?_
      refine lv_iload_n hx hb dX6_keepTests_17 rfl (lv_at hl 0 rfl) ?_
      refine x_aald (b := (o + (103 + 2 * w))) hx hb hK.1 hP (by omega) (by omega) 3 (((gw_out (by omega)).trans ((gw_out (by omega)).trans (hw_99)))) rfl (cl_of_nI (i := w) rfl (by omega)) rfl (vp_in_of_nI (i := w) rfl (by omega) (by omega)) dX6_keepTests_18 ?_
      refine x_get (ref := RX5) (C := RX5) (T := TX5) (N := 5) (ci := 5) (v := .int ((fo (m_kS G) w P) (103 + 2 * w) 1)) hx hb hts iX5 hown hK.1 hP (by omega) (by omega) (((gw_out (by omega)).trans ((gw_out (by omega)).trans (hw_log (by omega))))) rfl 1 (by decide) (hts (.fieldLink RX6 121 "PoreField$WellLog" "isToTest" "Z") (by decide +kernel)) (fun _ h9 => h9) rfl dX6_keepTests_19 ?_
      refine lv_if_eq (tgt := 62) hx hb dX6_keepTests_22 (by decide) (fun c_22 => ?_) (fun c_22 => ?_)
      · refine lv_iinc (v := (nI (w + 1))) (lv' := [(1, .int (nI (w + 1))), (0, .ref o)]) hx hb dX6_keepTests_62 hl (k := 0) rfl (nI_1 _) (by decide) rfl (fun ls hl => ?_)
        refine lv_goto (tgt := 2) hx hb dX6_keepTests_65 (by decide) ?_
        exact ih2 (w + 1) _ _ _ (by omega) (lv_sub hl [0, 1] rfl) ((by rw [show fo (m_kS G) (w + 1) P = fo (m_kS G) w P from (by simp only [fo_s, m_kS, if_pos c_22])]; exact hP)) hS
      · refine lv_aload_n hx hb dX6_keepTests_25 rfl (lv_at hl 1 rfl) ?_
        refine x_get (ref := RX6) (C := RX6) (T := TX6) (N := 11) (ci := 6) (v := .ref (o + 1)) hx hb hts iX6 hown hK.1 hP (by omega) (by omega) (((gw_out (by omega)).trans ((gw_out (by omega)).trans (hw_0)))) rfl 0 (by decide) (hts (.fieldLink RX6 10 "PoreField" "ground" "LPoreField$Ground;") (by decide +kernel)) (fun _ h9 => h9) rfl dX6_keepTests_26 ?_
        refine x_get (ref := RX2) (C := RX2) (T := TX2) (N := 12) (ci := 2) (v := .ref ((o + 1) + 2)) hx hb hts iX2 hown hK.1 hP (by omega) (by omega) (gw_0) rfl 1 (by decide) (hts (.fieldLink RX6 97 "PoreField$Ground" "wells" "[LPoreField$Well;") (by decide +kernel)) (fun _ h9 => h9) rfl dX6_keepTests_29 ?_
        refine lv_iload_n hx hb dX6_keepTests_32 rfl (lv_at hl 0 rfl) ?_
        refine x_aald (b := ((o + 1) + (37 + 2 * w))) hx hb hK.1 hP (by omega) (by omega) 2 (gw_2) rfl (cl_of_nI (i := w) rfl (by omega)) rfl (vp_in_of_nI (i := w) rfl (by omega) (by omega)) dX6_keepTests_33 ?_
        refine x_get (ref := RX4) (C := RX4) (T := TX4) (N := 5) (ci := 4) (v := .ref ((o + 1) + (38 + 2 * w))) hx hb hts iX4 hown hK.1 hP (by omega) (by omega) (gw_well (by omega)) rfl 4 (by decide) (hts (.fieldLink RX6 208 "PoreField$Well" "gave" "[I") (by decide +kernel)) (fun _ h9 => h9) rfl dX6_keepTests_34 ?_
        refine lv_iconst (v := 0) hx hb dX6_keepTests_37 (by decide) ?_
        refine lv_aload_n hx hb dX6_keepTests_38 rfl (lv_at hl 1 rfl) ?_
        refine x_get (ref := RX6) (C := RX6) (T := TX6) (N := 11) (ci := 6) (v := .ref (o + 99)) hx hb hts iX6 hown hK.1 hP (by omega) (by omega) (((gw_out (by omega)).trans ((gw_out (by omega)).trans (hw_0)))) rfl 2 (by decide) (hts (.fieldLink RX6 21 "PoreField" "logs" "[LPoreField$WellLog;") (by decide +kernel)) (fun _ h9 => h9) rfl dX6_keepTests_39 ?_
        refine lv_iload_n hx hb dX6_keepTests_42 rfl (lv_at hl 0 rfl) ?_
        refine x_aald (b := (o + (103 + 2 * w))) hx hb hK.1 hP (by omega) (by omega) 3 (((gw_out (by omega)).trans ((gw_out (by omega)).trans (hw_99)))) rfl (cl_of_nI (i := w) rfl (by omega)) rfl (vp_in_of_nI (i := w) rfl (by omega) (by omega)) dX6_keepTests_43 ?_
        refine x_get (ref := RX5) (C := RX5) (T := TX5) (N := 5) (ci := 5) (v := .ref (o + (104 + 2 * w))) hx hb hts iX5 hown hK.1 hP (by omega) (by omega) (((gw_out (by omega)).trans ((gw_out (by omega)).trans (hw_log (by omega))))) rfl 2 (by decide) (hts (.fieldLink RX6 205 "PoreField$WellLog" "test" "[I") (by decide +kernel)) (fun _ h9 => h9) rfl dX6_keepTests_44 ?_
        refine lv_iconst (v := 0) hx hb dX6_keepTests_47 (by decide) ?_
        refine lv_iconst (v := 3) hx hb dX6_keepTests_48 (by decide) ?_
        refine x_copyi (own := RX6) (k' := 3) hx hb (hml.trans hl.1.symm) hown (hts (.methodLink RX6 307 arraycopyName) (by decide +kernel)) (hts (.native arraycopyName) (by decide +kernel)) (hts (.static arraycopyName) (by decide +kernel)) (hts (.initialized "java/lang/System") (by decide +kernel)) hK.1 hP hS 0 (by omega) (by omega) (by omega) (by omega) (gw_row (gRow_gave (by omega))) (((gw_out (by omega)).trans ((gw_out (by omega)).trans (hw_row (hRow_test (by omega)))))) rfl (by decide) rfl (by omega) (by omega) (Nat.le_of_ble_eq_true rfl) (Nat.le_of_ble_eq_true rfl) dX6_keepTests_49 (fun H locs hP hS => ?_)
        have hP := hp2c (k := 104 + 2 * w) hP (by omega) (by omega) (hRow_test (by omega))
        refine lv_aload_n hx hb dX6_keepTests_52 rfl (lv_at hl 1 rfl) ?_
        refine x_get (ref := RX6) (C := RX6) (T := TX6) (N := 11) (ci := 6) (v := .ref (o + 99)) hx hb hts iX6 hown hK.1 hP (by omega) (by omega) (((gw_out (by omega)).trans ((gw_out (by omega)).trans (hw_0)))) rfl 2 (by decide) (hts (.fieldLink RX6 21 "PoreField" "logs" "[LPoreField$WellLog;") (by decide +kernel)) (fun _ h9 => h9) rfl dX6_keepTests_53 ?_
        refine lv_iload_n hx hb dX6_keepTests_56 rfl (lv_at hl 0 rfl) ?_
        refine x_aald (b := (o + (103 + 2 * w))) hx hb hK.1 hP (by omega) (by omega) 3 (((gw_out (by omega)).trans ((gw_out (by omega)).trans (hw_99)))) rfl (cl_of_nI (i := w) rfl (by omega)) rfl (vp_in_of_nI (i := w) rfl (by omega) (by omega)) dX6_keepTests_57 ?_
        refine lv_iconst (v := 0) hx hb dX6_keepTests_58 (by decide) ?_
        refine x_put (ty := .boolean) (ref := RX5) (C := RX5) (T := TX5) (N := 5) (ci := 5) (v := .int (0 : Int32)) hx hb hts iX5 tyX5 tyX5_ok nmX5 hown hK.1 hP hS (by omega) (by omega) (((gw_out (by omega)).trans ((gw_out (by omega)).trans (hw_log (by omega))))) rfl 1 (by decide) (hts (.fieldLink RX6 121 "PoreField$WellLog" "isToTest" "Z") (by decide +kernel)) (fun _ h9 => h9) rfl (by decide +kernel) (nar_z (Or.inl rfl)) (fit_z (Or.inl rfl)) (Nat.le_of_ble_eq_true rfl) dX6_keepTests_59 (fun H locs hP hS => ?_)
        have hP := hp2 (k := 103 + 2 * w) (j := 1) (v := (0 : Int32)) hP (by omega) (by omega) (by omega) (by rw [hEr_log (by omega)]; rfl)
        refine lv_iinc (v := (nI (w + 1))) (lv' := [(1, .int (nI (w + 1))), (0, .ref o)]) hx hb dX6_keepTests_62 hl (k := 0) rfl (nI_1 _) (by decide) rfl (fun ls hl => ?_)
        refine lv_goto (tgt := 2) hx hb dX6_keepTests_65 (by decide) ?_
        exact ih2 (w + 1) _ _ _ (by omega) (lv_sub hl [0, 1] rfl) ((by rw [show fo (m_kS G) (w + 1) P = u2 (sr (fo (m_kS G) w P) (104 + 2 * w) (va_cpy (G (38 + 2 * w)) ((fo (m_kS G) w P) (104 + 2 * w)) 0 0 3)) (103 + 2 * w) 1 (0 : Int32) from (by simp only [fo_s, m_kS, if_neg c_22])]; exact hP)) hS
  exact hloop2 nd 0 _ _ _ (by omega) (lv_sub hl [0, 1] rfl) (hP) hS

set_option maxRecDepth 100000 in
set_option maxHeartbeats 4000000 in
/-- entitle -/
theorem c_X6_entitle (l : Launch) (D : va_G) (cy : Nat → ClassId) (lo n : Nat) (w0 : Nat → va_E) (o : Nat) (G T P : Mem) (ho1 : lo ≤ o) (ho2 : o + 118 ≤ lo + n) (oil : Int32) : Met l yX6_entitle wsX6_entitle ({ frames := 0, cells := 0, slots := 0, locals := 0 }) (PcW D cy lo n (gw cy (gw cy (hw cy w0 o P) (o + 50) T) (o + 1) G) [.ref o, .int oil]) (QvW D lo n (gw cy (gw cy (hw cy w0 o (m_entitle oil P)) (o + 50) T) (o + 1) G)) 0 0 (fun q : Nat => lo ≤ q) := by
  refine Met.ofW (cc := cX6_entitle) (maxL := 5) (ret := none) (by decide) rfl ?_
  intro p e s m args below meth c s₁ B hml hv
  obtain ⟨rfl, hP, hK, hS⟩ := x_entry hv
  have hx := B.exec
  have hb := B.bytes
  have hr := B.returns
  have hts := atoms_spec (ws := wsX6_entitle) B.pre
  have hown : s.vm.findClass RX6 = some m.cls := findClass_of_methodNamed B.named
  have hlocks := B.notSynchronized
  have iX3 : ∀ w ∈ u_ws RX3 TX3 4, w ∈ wsX6_entitle := by decide +kernel
  have iX6 : ∀ w ∈ u_ws RX6 TX6 11, w ∈ wsX6_entitle := by decide +kernel
  have hl := lv_entry ([.ref o, .int oil]) (n := 5) (Nat.le_of_ble_eq_true rfl)
  rw [lg_entry_eq]
  generalize (lg_sl ([.ref o, .int oil]) ++ List.replicate (5 - (lg_sl ([.ref o, .int oil])).length) Slot.unset).toArray = ls at hl ⊢
  have hl : lv_has ls 5 [(0, .ref o), (1, .int oil)] := hl
  refine lv_iload_n hx hb dX6_entitle_0 rfl (lv_at hl 1 rfl) ?_
  refine lv_istore_n (lv' := [(2, .int oil), (0, .ref o), (1, .int oil)]) hx hb dX6_entitle_1 rfl hl (by decide) rfl (fun ls hl => ?_)
  refine lv_iconst (v := 0) hx hb dX6_entitle_2 (by decide) ?_
  refine lv_istore_n (lv' := [(3, .int (0 : Int32)), (2, .int oil), (0, .ref o), (1, .int oil)]) hx hb dX6_entitle_3 rfl hl (by decide) rfl (fun ls hl => ?_)
  have hloop4 : ∀ (i_r i : Nat) (H : Heap) (locs : List Loc) (ls : Array Slot), i + i_r = 3 → lv_has ls 5 [(3, .int (nI i)), (2, .int ((m_eL oil P i).1)), (0, .ref o), (1, .int oil)] → va_P D vwCl (rl lo n (gw cy (gw cy (hw cy w0 o ((m_eL oil P i).2)) (o + 50) T) (o + 1) G)) H → va_S (fun q : Nat => lo ≤ q) s.heap H locs → W p l e (headSpec wsX6_entitle ({ frames := 0, cells := 0, slots := 0, locals := 0 })).room s m (([.ref o, .int oil] : List Value).toArray) below meth c H locs 0 0 (MQ below (QvW D lo n (gw cy (gw cy (hw cy w0 o (m_entitle oil P)) (o + 50) T) (o + 1) G)) (([.ref o, .int oil] : List Value).toArray) s 0 0 (fun q : Nat => lo ≤ q)) (F0 m 4 ls []) := by
    intro i_r
    induction i_r with
    | zero =>
      intro i H locs ls hk4 hl hP hS
      obtain rfl : i = 3 := by omega
      refine lv_iload_n hx hb dX6_entitle_4 rfl (lv_at hl 0 rfl) ?_
      refine lv_iconst (v := 3) hx hb dX6_entitle_5 (by decide) ?_
      refine lv_icmp_ge (tgt := 52) hx hb dX6_entitle_6 (by decide) (fun _ => ?_) (fun c => absurd ((br_le (show (3 : Int32) = nI 3 from rfl) (show (nI 3) = nI 3 from rfl) (by omega) (by omega)).mpr (by omega)) c)
      refine lv_aload_n hx hb dX6_entitle_52 rfl (lv_at hl 2 rfl) ?_
      refine x_get (ref := RX6) (C := RX6) (T := TX6) (N := 11) (ci := 6) (v := .ref (o + 100)) hx hb hts iX6 hown hK.1 hP (by omega) (by omega) (((gw_out (by omega)).trans ((gw_out (by omega)).trans (hw_0)))) rfl 3 (by decide) (hts (.fieldLink RX6 27 "PoreField" "partners" "[LPoreField$Partner;") (by decide +kernel)) (fun _ h9 => h9) rfl dX6_entitle_53 ?_
      refine lv_iconst (v := 0) hx hb dX6_entitle_56 (by decide) ?_
      refine x_aald (b := (o + (115 + 0))) hx hb hK.1 hP (by omega) (by omega) 4 (((gw_out (by omega)).trans ((gw_out (by omega)).trans (hw_100)))) rfl (cl_of_nI (i := 0) rfl (by omega)) rfl (vp_in_of_nI (i := 0) rfl (by omega) (by omega)) dX6_entitle_57 ?_
      refine lv_dup hx hb dX6_entitle_58 rfl ?_
      refine x_get (ref := RX3) (C := RX3) (T := TX3) (N := 4) (ci := 3) (v := .int (((m_eL oil P 3).2) (115 + 0) 1)) hx hb hts iX3 hown hK.1 hP (by omega) (by omega) (((gw_out (by omega)).trans ((gw_out (by omega)).trans (hw_par (by omega))))) rfl 1 (by decide) (hts (.fieldLink RX6 217 "PoreField$Partner" "entitled" "I") (by decide +kernel)) (fun _ h9 => h9) rfl dX6_entitle_59 ?_
      refine lv_iload_n hx hb dX6_entitle_62 rfl (lv_at hl 1 rfl) ?_
      refine lv_iadd hx hb dX6_entitle_63 ?_
      refine x_put (ty := .int) (ref := RX3) (C := RX3) (T := TX3) (N := 4) (ci := 3) (v := .int ((((m_eL oil P 3).2) (115 + 0) 1) + ((m_eL oil P 3).1))) hx hb hts iX3 tyX3 tyX3_ok nmX3 hown hK.1 hP hS (by omega) (by omega) (((gw_out (by omega)).trans ((gw_out (by omega)).trans (hw_par (by omega))))) rfl 1 (by decide) (hts (.fieldLink RX6 217 "PoreField$Partner" "entitled" "I") (by decide +kernel)) (fun _ h9 => h9) rfl (by decide +kernel) rfl rfl (Nat.le_of_ble_eq_true rfl) dX6_entitle_64 (fun H locs hP hS => ?_)
      have hP := hp2 (k := 115 + 0) (j := 1) (v := ((((m_eL oil P 3).2) (115 + 0) 1) + ((m_eL oil P 3).1))) hP (by omega) (by omega) (by omega) (by rw [hEr_par (by omega)]; rfl)
      exact W.vret hx hb hr (fun tE ht hW => ⟨⟨(), rfl, trivial, x_at ht (hP)⟩, hS.F ht⟩) hS.2.2 dX6_entitle_67
    | succ i_r ih4 =>
      intro i H locs ls hk4 hl hP hS
      refine lv_iload_n hx hb dX6_entitle_4 rfl (lv_at hl 0 rfl) ?_
      refine lv_iconst (v := 3) hx hb dX6_entitle_5 (by decide) ?_
      refine lv_icmp_ge (tgt := 52) hx hb dX6_entitle_6 (by decide) (fun c => absurd ((br_le (show (3 : Int32) = nI 3 from rfl) (show (nI i) = nI i from rfl) (by omega) (by omega)).mp c) (by omega)) (fun _ => ?_)
      refine lv_iload_n hx hb dX6_entitle_9 rfl (lv_at hl 3 rfl) ?_
      refine lv_aload_n hx hb dX6_entitle_10 rfl (lv_at hl 2 rfl) ?_
      refine x_get (ref := RX6) (C := RX6) (T := TX6) (N := 11) (ci := 6) (v := .ref (o + 100)) hx hb hts iX6 hown hK.1 hP (by omega) (by omega) (((gw_out (by omega)).trans ((gw_out (by omega)).trans (hw_0)))) rfl 3 (by decide) (hts (.fieldLink RX6 27 "PoreField" "partners" "[LPoreField$Partner;") (by decide +kernel)) (fun _ h9 => h9) rfl dX6_entitle_11 ?_
      refine lv_iload_n hx hb dX6_entitle_14 rfl (lv_at hl 0 rfl) ?_
      refine x_aald (b := (o + (115 + i))) hx hb hK.1 hP (by omega) (by omega) 4 (((gw_out (by omega)).trans ((gw_out (by omega)).trans (hw_100)))) rfl (cl_of_nI (i := i) rfl (by omega)) rfl (vp_in_of_nI (i := i) rfl (by omega) (by omega)) dX6_entitle_15 ?_
      refine x_get (ref := RX3) (C := RX3) (T := TX3) (N := 4) (ci := 3) (v := .int (((m_eL oil P i).2) (115 + i) 0)) hx hb hts iX3 hown hK.1 hP (by omega) (by omega) (((gw_out (by omega)).trans ((gw_out (by omega)).trans (hw_par (by omega))))) rfl 0 (by decide) (hts (.fieldLink RX6 48 "PoreField$Partner" "share" "I") (by decide +kernel)) (fun _ h9 => h9) rfl dX6_entitle_16 ?_
      refine lv_imul hx hb dX6_entitle_19 ?_
      refine lv_bipush (v := 100) hx hb dX6_entitle_20 (by decide) ?_
      refine lv_idiv hx hb dX6_entitle_22 (by decide) ?_
      refine lv_istore (lv' := [(4, .int ((oil * (((m_eL oil P i).2) (115 + i) 0)) / (100 : Int32))), (3, .int (nI i)), (2, .int ((m_eL oil P i).1)), (0, .ref o), (1, .int oil)]) hx hb dX6_entitle_23 hl (by decide) rfl (fun ls hl => ?_)
      refine lv_aload_n hx hb dX6_entitle_25 rfl (lv_at hl 3 rfl) ?_
      refine x_get (ref := RX6) (C := RX6) (T := TX6) (N := 11) (ci := 6) (v := .ref (o + 100)) hx hb hts iX6 hown hK.1 hP (by omega) (by omega) (((gw_out (by omega)).trans ((gw_out (by omega)).trans (hw_0)))) rfl 3 (by decide) (hts (.fieldLink RX6 27 "PoreField" "partners" "[LPoreField$Partner;") (by decide +kernel)) (fun _ h9 => h9) rfl dX6_entitle_26 ?_
      refine lv_iload_n hx hb dX6_entitle_29 rfl (lv_at hl 1 rfl) ?_
      refine x_aald (b := (o + (115 + i))) hx hb hK.1 hP (by omega) (by omega) 4 (((gw_out (by omega)).trans ((gw_out (by omega)).trans (hw_100)))) rfl (cl_of_nI (i := i) rfl (by omega)) rfl (vp_in_of_nI (i := i) rfl (by omega) (by omega)) dX6_entitle_30 ?_
      refine lv_dup hx hb dX6_entitle_31 rfl ?_
      refine x_get (ref := RX3) (C := RX3) (T := TX3) (N := 4) (ci := 3) (v := .int (((m_eL oil P i).2) (115 + i) 1)) hx hb hts iX3 hown hK.1 hP (by omega) (by omega) (((gw_out (by omega)).trans ((gw_out (by omega)).trans (hw_par (by omega))))) rfl 1 (by decide) (hts (.fieldLink RX6 217 "PoreField$Partner" "entitled" "I") (by decide +kernel)) (fun _ h9 => h9) rfl dX6_entitle_32 ?_
      refine lv_iload hx hb dX6_entitle_35 (lv_at hl 0 rfl) ?_
      refine lv_iadd hx hb dX6_entitle_37 ?_
      refine x_put (ty := .int) (ref := RX3) (C := RX3) (T := TX3) (N := 4) (ci := 3) (v := .int ((((m_eL oil P i).2) (115 + i) 1) + ((oil * (((m_eL oil P i).2) (115 + i) 0)) / (100 : Int32)))) hx hb hts iX3 tyX3 tyX3_ok nmX3 hown hK.1 hP hS (by omega) (by omega) (((gw_out (by omega)).trans ((gw_out (by omega)).trans (hw_par (by omega))))) rfl 1 (by decide) (hts (.fieldLink RX6 217 "PoreField$Partner" "entitled" "I") (by decide +kernel)) (fun _ h9 => h9) rfl (by decide +kernel) rfl rfl (Nat.le_of_ble_eq_true rfl) dX6_entitle_38 (fun H locs hP hS => ?_)
      have hP := hp2 (k := 115 + i) (j := 1) (v := ((((m_eL oil P i).2) (115 + i) 1) + ((oil * (((m_eL oil P i).2) (115 + i) 0)) / (100 : Int32)))) hP (by omega) (by omega) (by omega) (by rw [hEr_par (by omega)]; rfl)
      refine lv_iload_n hx hb dX6_entitle_41 rfl (lv_at hl 2 rfl) ?_
      refine lv_iload hx hb dX6_entitle_42 (lv_at hl 0 rfl) ?_
      refine lv_isub hx hb dX6_entitle_44 ?_
      refine lv_istore_n (lv' := [(2, .int (((m_eL oil P i).1) - ((oil * (((m_eL oil P i).2) (115 + i) 0)) / (100 : Int32)))), (4, .int ((oil * (((m_eL oil P i).2) (115 + i) 0)) / (100 : Int32))), (3, .int (nI i)), (0, .ref o), (1, .int oil)]) hx hb dX6_entitle_45 rfl hl (by decide) rfl (fun ls hl => ?_)
      refine lv_iinc (v := (nI (i + 1))) (lv' := [(3, .int (nI (i + 1))), (2, .int (((m_eL oil P i).1) - ((oil * (((m_eL oil P i).2) (115 + i) 0)) / (100 : Int32)))), (4, .int ((oil * (((m_eL oil P i).2) (115 + i) 0)) / (100 : Int32))), (0, .ref o), (1, .int oil)]) hx hb dX6_entitle_46 hl (k := 2) rfl (nI_1 _) (by decide) rfl (fun ls hl => ?_)
      refine lv_goto (tgt := 4) hx hb dX6_entitle_49 (by decide) ?_
      have hst1 : (m_eL oil P (i + 1)).1 = (((m_eL oil P i).1) - ((oil * (((m_eL oil P i).2) (115 + i) 0)) / (100 : Int32))) := by simp only [m_eL, fo_s, m_eS]
      have hst2 : (m_eL oil P (i + 1)).2 = u2 ((m_eL oil P i).2) (115 + i) 1 ((((m_eL oil P i).2) (115 + i) 1) + ((oil * (((m_eL oil P i).2) (115 + i) 0)) / (100 : Int32))) := by simp only [m_eL, fo_s, m_eS]
      have hl : lv_has ls 5 [(3, .int (nI (i + 1))), (2, .int ((m_eL oil P (i + 1)).1)), (4, .int ((oil * (((m_eL oil P i).2) (115 + i) 0)) / (100 : Int32))), (0, .ref o), (1, .int oil)] := by rw [hst1]; exact hl
      exact ih4 (i + 1) _ _ _ (by omega) (lv_sub hl [0, 1, 3, 4] rfl) ((by rw [hst2]; exact hP)) hS
  exact hloop4 3 0 _ _ _ (by omega) (lv_sub hl [0, 1, 2, 3] rfl) (hP) hS
