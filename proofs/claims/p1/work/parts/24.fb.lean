/-! the reckoner's field: months -/
set_option maxRecDepth 100000 in
set_option maxHeartbeats 1000000 in
/-- a month, where nothing is -/
theorem c_X7_month (l : Launch) (D : va_G) (cy : Nat → ClassId) (lo n : Nat) (w : Nat → va_E) (f : Nat) (h1 : lo ≤ f) (h2 : f + 16 ≤ lo + n) (nw tk : Int32) (hF : FM cy w f nw tk) : Met l yX7_month wsX7_month ({ frames := 3, cells := 0, slots := 0, locals := 80 }) (PcW D cy lo n w [.ref f]) (QxT D lo n (fun r u => r = 0 ∧ FM cy u f (nw + 1) tk ∧ fr f 16 w u)) 0 0 (fun q : Nat => lo ≤ q) := by
  refine Met.ofW (cc := cX7_month) (maxL := 6) (ret := (some .int)) (by decide) rfl ?_
  intro p e s m args below meth c s₁ B hml hv
  obtain ⟨rfl, hP, hK, hS⟩ := x_entry hv
  have hx := B.exec
  have hb := B.bytes
  have hr := B.returns
  have hts := atoms_spec (ws := wsX7_month) B.pre
  have hown : s.vm.findClass RX7 = some m.cls := findClass_of_methodNamed B.named
  have hlocks := B.notSynchronized
  have iX7 : ∀ w ∈ u_ws RX7 TX7 14, w ∈ wsX7_month := by decide +kernel
  have hl := lv_entry ([.ref f]) (n := 6) (Nat.le_of_ble_eq_true rfl)
  rw [lg_entry_eq]
  generalize (lg_sl ([.ref f]) ++ List.replicate (6 - (lg_sl ([.ref f])).length) Slot.unset).toArray = ls at hl ⊢
  have hl : lv_has ls 6 [(0, .ref f)] := hl
  have hfr : fr f 16 w w := fr.rf
  refine lv_aload_n hx hb dX7_month_0 rfl (lv_at hl 0 rfl) ?_
  refine lv_dup hx hb dX7_month_1 rfl ?_
  refine x_get (ref := RX7) (C := RX7) (T := TX7) (N := 14) (ci := 7) (v := .int nw) hx hb hts iX7 hown hK.1 hP (by omega) (by omega) hF.self rfl 10 (by decide) (hts (.fieldLink RX7 59 "PoreFieldModel$Field" "now" "I") (by decide +kernel)) (fun _ h9 => h9) rfl dX7_month_2 ?_
  refine lv_iconst (v := 1) hx hb dX7_month_5 (by decide) ?_
  refine lv_iadd hx hb dX7_month_6 ?_
  refine x_put (ty := tyX7 10) (ref := RX7) (C := RX7) (T := TX7) (N := 14) (ci := 7) (v := .int (nw + (1 : Int32))) hx hb hts iX7 tyX7 tyX7_ok nmX7 hown hK.1 hP hS (by omega) (by omega) hF.self rfl 10 (by decide) (hts (.fieldLink RX7 59 "PoreFieldModel$Field" "now" "I") (by decide +kernel)) (fun _ h9 => h9) rfl (by decide +kernel) rfl rfl (Nat.le_of_ble_eq_true rfl) dX7_month_7 (fun H locs hP hS => ?_)
  refine x_gen hP (fun v1 e1 hP => ?_)
  have hF : FM cy v1 f (nw + (1 : Int32)) tk := by rw [e1]; exact hF.up_self (nw' := (nw + (1 : Int32))) (tk' := tk)
  have hfr : fr f 16 w v1 := by rw [e1]; exact hfr.up (by omega) (by omega)
  refine lv_aload_n hx hb dX7_month_10 rfl (lv_at hl 0 rfl) ?_
  refine x_get (ref := RX7) (C := RX7) (T := TX7) (N := 14) (ci := 7) (v := .ref (f + 12)) hx hb hts iX7 hown hK.1 hP (by omega) (by omega) hF.self rfl 5 (by decide) (hts (.fieldLink RX7 30 "PoreFieldModel$Field" "capacity" "[I") (by decide +kernel)) (fun _ h9 => h9) rfl dX7_month_11 ?_
  refine lv_iconst (v := 0) hx hb dX7_month_14 (by decide) ?_
  refine lv_aload_n hx hb dX7_month_15 rfl (lv_at hl 0 rfl) ?_
  refine x_get (ref := RX7) (C := RX7) (T := TX7) (N := 14) (ci := 7) (v := .ref (f + 15)) hx hb hts iX7 hown hK.1 hP (by omega) (by omega) hF.self rfl 8 (by decide) (hts (.fieldLink RX7 39 "PoreFieldModel$Field" "left" "[I") (by decide +kernel)) (fun _ h9 => h9) rfl dX7_month_16 ?_
  refine lv_iconst (v := 0) hx hb dX7_month_19 (by decide) ?_
  refine lv_iconst (v := 3) hx hb dX7_month_20 (by decide) ?_
  obtain ⟨d1, g1, q1⟩ := hF.capacity
  obtain ⟨d2, g2⟩ := hF.left
  refine x_copyi (own := RX7) (k' := 3) hx hb (hml.trans hl.1.symm) hown (hts (.methodLink RX7 50 arraycopyName) (by decide +kernel)) (hts (.native arraycopyName) (by decide +kernel)) (hts (.static arraycopyName) (by decide +kernel)) (hts (.initialized "java/lang/System") (by decide +kernel)) hK.1 hP hS 0 (by omega) (by omega) (by omega) (by omega) g1 g2 rfl (by decide) (by decide) (by omega) (by omega) (Nat.le_of_ble_eq_true rfl) (Nat.le_of_ble_eq_true rfl) dX7_month_21 (fun H locs hP hS => ?_)
  refine x_gen hP (fun v2 e2 hP => ?_)
  have hF : FM cy v2 f (nw + (1 : Int32)) tk := by rw [e2]; exact hF.up_left
  have hfr : fr f 16 w v2 := by rw [e2]; exact hfr.up (by omega) (by omega)
  refine lv_aload_n hx hb dX7_month_24 rfl (lv_at hl 0 rfl) ?_
  refine x_get (ref := RX7) (C := RX7) (T := TX7) (N := 14) (ci := 7) (v := .ref (f + 15)) hx hb hts iX7 hown hK.1 hP (by omega) (by omega) hF.self rfl 8 (by decide) (hts (.fieldLink RX7 39 "PoreFieldModel$Field" "left" "[I") (by decide +kernel)) (fun _ h9 => h9) rfl dX7_month_25 ?_
  refine lv_iconst (v := 2) hx hb dX7_month_28 (by decide) ?_
  refine lv_aload_n hx hb dX7_month_29 rfl (lv_at hl 0 rfl) ?_
  refine x_get (ref := RX7) (C := RX7) (T := TX7) (N := 14) (ci := 7) (v := .ref (f + 12)) hx hb hts iX7 hown hK.1 hP (by omega) (by omega) hF.self rfl 5 (by decide) (hts (.fieldLink RX7 30 "PoreFieldModel$Field" "capacity" "[I") (by decide +kernel)) (fun _ h9 => h9) rfl dX7_month_30 ?_
  refine lv_iconst (v := 2) hx hb dX7_month_33 (by decide) ?_
  obtain ⟨d3, g3, q3⟩ := hF.capacity
  refine x_iald hx hb hK.1 hP (by omega) (by omega) 0 g3 rfl (cl_of_nI (i := 2) rfl (by omega)) (vp_in_of_nI (i := 2) rfl (by omega) (by omega)) dX7_month_34 ?_
  refine x_top (v' := (40 : Int32)) (q3 _ (by omega)) ?_
  refine lv_aload_n hx hb dX7_month_35 rfl (lv_at hl 0 rfl) ?_
  refine x_get (ref := RX7) (C := RX7) (T := TX7) (N := 14) (ci := 7) (v := .int (10 : Int32)) hx hb hts iX7 hown hK.1 hP (by omega) (by omega) hF.self rfl 11 (by decide) (hts (.fieldLink RX7 42 "PoreFieldModel$Field" "permit" "I") (by decide +kernel)) (fun _ h9 => h9) rfl dX7_month_36 ?_
  refine lv_aload_n hx hb dX7_month_39 rfl (lv_at hl 0 rfl) ?_
  refine x_calli (va_runV (As := []) (rest := [.int (10 : Int32), .int (40 : Int32), .int (2 : Int32), .ref (f + 15)]) ⟨hx, hb, hml, hown, hts⟩ (c_X7_canTake l D cy lo n v2 f (by omega) (by omega) (nw + (1 : Int32)) tk hF) (cwV 0 hts gX7_month_X7_canTake rfl rfl rfl (by decide +kernel) ⟨Nat.le_of_ble_eq_true rfl, Nat.le_of_ble_eq_true rfl⟩) (preV hP hK (x_recv (ci := 7) (q := (RX7, TX7, 14)) hK.1 hP (by omega) (by omega) rfl hF.self)) rfl rfl hl.1 rfl (lv_room (Nat.le_of_ble_eq_true rfl)) dX7_month_40 ⟨Nat.le_of_ble_eq_true rfl, Nat.le_of_ble_eq_true rfl⟩) hS (fun H locs hP hS => ?_)
  refine lv_iadd hx hb dX7_month_43 ?_
  refine x_top (v' := 10) (by decide) ?_
  refine va_mmin (own := RX7) hx hb (hml.trans hl.1.symm) hown (hts (.methodLink RX7 69 Lib.Math.min.name) (by decide +kernel)) (hts (.static Lib.Math.min.name) (by decide +kernel)) (hts (.initialized "java/lang/Math") (by decide +kernel)) (hts (.code Lib.Math.min.name Lib.Math.min.code 2 (some .int)) (by decide +kernel)) (Nat.le_of_ble_eq_true rfl) (Nat.le_of_ble_eq_true rfl) (Nat.zero_le _) (Nat.zero_le _) dX7_month_44 ?_
  refine x_top (v' := 10) (by decide) ?_
  obtain ⟨d4, g4⟩ := hF.left
  refine x_iast hx hb hK.1 hP hS (by omega) (by omega) 0 g4 rfl (cl_of_nI (i := 2) rfl (by omega)) (vp_in_of_nI (i := 2) rfl (by omega) (by omega)) dX7_month_47 (fun H locs hP hS => ?_)
  refine x_gen hP (fun v3 e3 hP => ?_)
  have hF : FM cy v3 f (nw + (1 : Int32)) tk := by rw [e3]; exact hF.up_left
  have hfr : fr f 16 w v3 := by rw [e3]; exact hfr.up (by omega) (by omega)
  refine lv_iconst (v := 0) hx hb dX7_month_48 (by decide) ?_
  refine lv_istore_n (lv' := [(1, .int (0 : Int32)), (0, .ref f)]) hx hb dX7_month_49 rfl hl (by decide) rfl (fun ls hl => ?_)
  refine lv_iconst (v := 0) hx hb dX7_month_50 (by decide) ?_
  refine lv_istore_n (lv' := [(2, .int (0 : Int32)), (1, .int (0 : Int32)), (0, .ref f)]) hx hb dX7_month_51 rfl hl (by decide) rfl (fun ls hl => ?_)
  refine lv_iconst (v := 0) hx hb dX7_month_52 (by decide) ?_
  refine lv_istore_n (lv' := [(3, .int (0 : Int32)), (2, .int (0 : Int32)), (1, .int (0 : Int32)), (0, .ref f)]) hx hb dX7_month_53 rfl hl (by decide) rfl (fun ls hl => ?_)
  refine lv_iload_n hx hb dX7_month_54 rfl (lv_at hl 0 rfl) ?_
  refine lv_aload_n hx hb dX7_month_55 rfl (lv_at hl 3 rfl) ?_
  refine x_get (ref := RX7) (C := RX7) (T := TX7) (N := 14) (ci := 7) (v := .int (0 : Int32)) hx hb hts iX7 hown hK.1 hP (by omega) (by omega) hF.self rfl 9 (by decide) (hts (.fieldLink RX7 56 "PoreFieldModel$Field" "wellCount" "I") (by decide +kernel)) (fun _ h9 => h9) rfl dX7_month_56 ?_
  refine lv_icmp_ge (tgt := 96) hx hb dX7_month_59 (by decide) (fun _ => ?_) (fun h => absurd (by decide) h)
  refine lv_iconst (v := 1) hx hb dX7_month_96 (by decide) ?_
  refine lv_istore_n (lv' := [(3, .int (1 : Int32)), (2, .int (0 : Int32)), (1, .int (0 : Int32)), (0, .ref f)]) hx hb dX7_month_97 rfl hl (by decide) rfl (fun ls hl => ?_)
  refine lv_iload_n hx hb dX7_month_98 rfl (lv_at hl 0 rfl) ?_
  refine lv_bipush (v := 9) hx hb dX7_month_99 (by decide) ?_
  refine lv_icmp_gt (tgt := 185) hx hb dX7_month_101 (by decide) (fun h => absurd h (by decide)) (fun _ => ?_)
  refine lv_iconst (v := 0) hx hb dX7_month_104 (by decide) ?_
  refine lv_istore (lv' := [(4, .int (0 : Int32)), (3, .int (1 : Int32)), (2, .int (0 : Int32)), (1, .int (0 : Int32)), (0, .ref f)]) hx hb dX7_month_105 hl (by decide) rfl (fun ls hl => ?_)
  refine lv_iload hx hb dX7_month_107 (lv_at hl 0 rfl) ?_
  refine lv_aload_n hx hb dX7_month_109 rfl (lv_at hl 4 rfl) ?_
  refine x_get (ref := RX7) (C := RX7) (T := TX7) (N := 14) (ci := 7) (v := .int (0 : Int32)) hx hb hts iX7 hown hK.1 hP (by omega) (by omega) hF.self rfl 9 (by decide) (hts (.fieldLink RX7 56 "PoreFieldModel$Field" "wellCount" "I") (by decide +kernel)) (fun _ h9 => h9) rfl dX7_month_110 ?_
  refine lv_icmp_ge (tgt := 179) hx hb dX7_month_113 (by decide) (fun _ => ?_) (fun h => absurd (by decide) h)
  refine lv_iinc (v := (2 : Int32)) (lv' := [(3, .int (2 : Int32)), (4, .int (0 : Int32)), (2, .int (0 : Int32)), (1, .int (0 : Int32)), (0, .ref f)]) hx hb dX7_month_179 hl (k := 1) rfl (by decide) (by decide) rfl (fun ls hl => ?_)
  refine lv_goto (tgt := 98) hx hb dX7_month_182 (by decide) ?_
  refine lv_iload_n hx hb dX7_month_98 rfl (lv_at hl 0 rfl) ?_
  refine lv_bipush (v := 9) hx hb dX7_month_99 (by decide) ?_
  refine lv_icmp_gt (tgt := 185) hx hb dX7_month_101 (by decide) (fun h => absurd h (by decide)) (fun _ => ?_)
  refine lv_iconst (v := 0) hx hb dX7_month_104 (by decide) ?_
  refine lv_istore (lv' := [(4, .int (0 : Int32)), (3, .int (2 : Int32)), (2, .int (0 : Int32)), (1, .int (0 : Int32)), (0, .ref f)]) hx hb dX7_month_105 hl (by decide) rfl (fun ls hl => ?_)
  refine lv_iload hx hb dX7_month_107 (lv_at hl 0 rfl) ?_
  refine lv_aload_n hx hb dX7_month_109 rfl (lv_at hl 4 rfl) ?_
  refine x_get (ref := RX7) (C := RX7) (T := TX7) (N := 14) (ci := 7) (v := .int (0 : Int32)) hx hb hts iX7 hown hK.1 hP (by omega) (by omega) hF.self rfl 9 (by decide) (hts (.fieldLink RX7 56 "PoreFieldModel$Field" "wellCount" "I") (by decide +kernel)) (fun _ h9 => h9) rfl dX7_month_110 ?_
  refine lv_icmp_ge (tgt := 179) hx hb dX7_month_113 (by decide) (fun _ => ?_) (fun h => absurd (by decide) h)
  refine lv_iinc (v := (3 : Int32)) (lv' := [(3, .int (3 : Int32)), (4, .int (0 : Int32)), (2, .int (0 : Int32)), (1, .int (0 : Int32)), (0, .ref f)]) hx hb dX7_month_179 hl (k := 1) rfl (by decide) (by decide) rfl (fun ls hl => ?_)
  refine lv_goto (tgt := 98) hx hb dX7_month_182 (by decide) ?_
  refine lv_iload_n hx hb dX7_month_98 rfl (lv_at hl 0 rfl) ?_
  refine lv_bipush (v := 9) hx hb dX7_month_99 (by decide) ?_
  refine lv_icmp_gt (tgt := 185) hx hb dX7_month_101 (by decide) (fun h => absurd h (by decide)) (fun _ => ?_)
  refine lv_iconst (v := 0) hx hb dX7_month_104 (by decide) ?_
  refine lv_istore (lv' := [(4, .int (0 : Int32)), (3, .int (3 : Int32)), (2, .int (0 : Int32)), (1, .int (0 : Int32)), (0, .ref f)]) hx hb dX7_month_105 hl (by decide) rfl (fun ls hl => ?_)
  refine lv_iload hx hb dX7_month_107 (lv_at hl 0 rfl) ?_
  refine lv_aload_n hx hb dX7_month_109 rfl (lv_at hl 4 rfl) ?_
  refine x_get (ref := RX7) (C := RX7) (T := TX7) (N := 14) (ci := 7) (v := .int (0 : Int32)) hx hb hts iX7 hown hK.1 hP (by omega) (by omega) hF.self rfl 9 (by decide) (hts (.fieldLink RX7 56 "PoreFieldModel$Field" "wellCount" "I") (by decide +kernel)) (fun _ h9 => h9) rfl dX7_month_110 ?_
  refine lv_icmp_ge (tgt := 179) hx hb dX7_month_113 (by decide) (fun _ => ?_) (fun h => absurd (by decide) h)
  refine lv_iinc (v := (4 : Int32)) (lv' := [(3, .int (4 : Int32)), (4, .int (0 : Int32)), (2, .int (0 : Int32)), (1, .int (0 : Int32)), (0, .ref f)]) hx hb dX7_month_179 hl (k := 1) rfl (by decide) (by decide) rfl (fun ls hl => ?_)
  refine lv_goto (tgt := 98) hx hb dX7_month_182 (by decide) ?_
  refine lv_iload_n hx hb dX7_month_98 rfl (lv_at hl 0 rfl) ?_
  refine lv_bipush (v := 9) hx hb dX7_month_99 (by decide) ?_
  refine lv_icmp_gt (tgt := 185) hx hb dX7_month_101 (by decide) (fun h => absurd h (by decide)) (fun _ => ?_)
  refine lv_iconst (v := 0) hx hb dX7_month_104 (by decide) ?_
  refine lv_istore (lv' := [(4, .int (0 : Int32)), (3, .int (4 : Int32)), (2, .int (0 : Int32)), (1, .int (0 : Int32)), (0, .ref f)]) hx hb dX7_month_105 hl (by decide) rfl (fun ls hl => ?_)
  refine lv_iload hx hb dX7_month_107 (lv_at hl 0 rfl) ?_
  refine lv_aload_n hx hb dX7_month_109 rfl (lv_at hl 4 rfl) ?_
  refine x_get (ref := RX7) (C := RX7) (T := TX7) (N := 14) (ci := 7) (v := .int (0 : Int32)) hx hb hts iX7 hown hK.1 hP (by omega) (by omega) hF.self rfl 9 (by decide) (hts (.fieldLink RX7 56 "PoreFieldModel$Field" "wellCount" "I") (by decide +kernel)) (fun _ h9 => h9) rfl dX7_month_110 ?_
  refine lv_icmp_ge (tgt := 179) hx hb dX7_month_113 (by decide) (fun _ => ?_) (fun h => absurd (by decide) h)
  refine lv_iinc (v := (5 : Int32)) (lv' := [(3, .int (5 : Int32)), (4, .int (0 : Int32)), (2, .int (0 : Int32)), (1, .int (0 : Int32)), (0, .ref f)]) hx hb dX7_month_179 hl (k := 1) rfl (by decide) (by decide) rfl (fun ls hl => ?_)
  refine lv_goto (tgt := 98) hx hb dX7_month_182 (by decide) ?_
  refine lv_iload_n hx hb dX7_month_98 rfl (lv_at hl 0 rfl) ?_
  refine lv_bipush (v := 9) hx hb dX7_month_99 (by decide) ?_
  refine lv_icmp_gt (tgt := 185) hx hb dX7_month_101 (by decide) (fun h => absurd h (by decide)) (fun _ => ?_)
  refine lv_iconst (v := 0) hx hb dX7_month_104 (by decide) ?_
  refine lv_istore (lv' := [(4, .int (0 : Int32)), (3, .int (5 : Int32)), (2, .int (0 : Int32)), (1, .int (0 : Int32)), (0, .ref f)]) hx hb dX7_month_105 hl (by decide) rfl (fun ls hl => ?_)
  refine lv_iload hx hb dX7_month_107 (lv_at hl 0 rfl) ?_
  refine lv_aload_n hx hb dX7_month_109 rfl (lv_at hl 4 rfl) ?_
  refine x_get (ref := RX7) (C := RX7) (T := TX7) (N := 14) (ci := 7) (v := .int (0 : Int32)) hx hb hts iX7 hown hK.1 hP (by omega) (by omega) hF.self rfl 9 (by decide) (hts (.fieldLink RX7 56 "PoreFieldModel$Field" "wellCount" "I") (by decide +kernel)) (fun _ h9 => h9) rfl dX7_month_110 ?_
  refine lv_icmp_ge (tgt := 179) hx hb dX7_month_113 (by decide) (fun _ => ?_) (fun h => absurd (by decide) h)
  refine lv_iinc (v := (6 : Int32)) (lv' := [(3, .int (6 : Int32)), (4, .int (0 : Int32)), (2, .int (0 : Int32)), (1, .int (0 : Int32)), (0, .ref f)]) hx hb dX7_month_179 hl (k := 1) rfl (by decide) (by decide) rfl (fun ls hl => ?_)
  refine lv_goto (tgt := 98) hx hb dX7_month_182 (by decide) ?_
  refine lv_iload_n hx hb dX7_month_98 rfl (lv_at hl 0 rfl) ?_
  refine lv_bipush (v := 9) hx hb dX7_month_99 (by decide) ?_
  refine lv_icmp_gt (tgt := 185) hx hb dX7_month_101 (by decide) (fun h => absurd h (by decide)) (fun _ => ?_)
  refine lv_iconst (v := 0) hx hb dX7_month_104 (by decide) ?_
  refine lv_istore (lv' := [(4, .int (0 : Int32)), (3, .int (6 : Int32)), (2, .int (0 : Int32)), (1, .int (0 : Int32)), (0, .ref f)]) hx hb dX7_month_105 hl (by decide) rfl (fun ls hl => ?_)
  refine lv_iload hx hb dX7_month_107 (lv_at hl 0 rfl) ?_
  refine lv_aload_n hx hb dX7_month_109 rfl (lv_at hl 4 rfl) ?_
  refine x_get (ref := RX7) (C := RX7) (T := TX7) (N := 14) (ci := 7) (v := .int (0 : Int32)) hx hb hts iX7 hown hK.1 hP (by omega) (by omega) hF.self rfl 9 (by decide) (hts (.fieldLink RX7 56 "PoreFieldModel$Field" "wellCount" "I") (by decide +kernel)) (fun _ h9 => h9) rfl dX7_month_110 ?_
  refine lv_icmp_ge (tgt := 179) hx hb dX7_month_113 (by decide) (fun _ => ?_) (fun h => absurd (by decide) h)
  refine lv_iinc (v := (7 : Int32)) (lv' := [(3, .int (7 : Int32)), (4, .int (0 : Int32)), (2, .int (0 : Int32)), (1, .int (0 : Int32)), (0, .ref f)]) hx hb dX7_month_179 hl (k := 1) rfl (by decide) (by decide) rfl (fun ls hl => ?_)
  refine lv_goto (tgt := 98) hx hb dX7_month_182 (by decide) ?_
  refine lv_iload_n hx hb dX7_month_98 rfl (lv_at hl 0 rfl) ?_
  refine lv_bipush (v := 9) hx hb dX7_month_99 (by decide) ?_
  refine lv_icmp_gt (tgt := 185) hx hb dX7_month_101 (by decide) (fun h => absurd h (by decide)) (fun _ => ?_)
  refine lv_iconst (v := 0) hx hb dX7_month_104 (by decide) ?_
  refine lv_istore (lv' := [(4, .int (0 : Int32)), (3, .int (7 : Int32)), (2, .int (0 : Int32)), (1, .int (0 : Int32)), (0, .ref f)]) hx hb dX7_month_105 hl (by decide) rfl (fun ls hl => ?_)
  refine lv_iload hx hb dX7_month_107 (lv_at hl 0 rfl) ?_
  refine lv_aload_n hx hb dX7_month_109 rfl (lv_at hl 4 rfl) ?_
  refine x_get (ref := RX7) (C := RX7) (T := TX7) (N := 14) (ci := 7) (v := .int (0 : Int32)) hx hb hts iX7 hown hK.1 hP (by omega) (by omega) hF.self rfl 9 (by decide) (hts (.fieldLink RX7 56 "PoreFieldModel$Field" "wellCount" "I") (by decide +kernel)) (fun _ h9 => h9) rfl dX7_month_110 ?_
  refine lv_icmp_ge (tgt := 179) hx hb dX7_month_113 (by decide) (fun _ => ?_) (fun h => absurd (by decide) h)
  refine lv_iinc (v := (8 : Int32)) (lv' := [(3, .int (8 : Int32)), (4, .int (0 : Int32)), (2, .int (0 : Int32)), (1, .int (0 : Int32)), (0, .ref f)]) hx hb dX7_month_179 hl (k := 1) rfl (by decide) (by decide) rfl (fun ls hl => ?_)
  refine lv_goto (tgt := 98) hx hb dX7_month_182 (by decide) ?_
  refine lv_iload_n hx hb dX7_month_98 rfl (lv_at hl 0 rfl) ?_
  refine lv_bipush (v := 9) hx hb dX7_month_99 (by decide) ?_
  refine lv_icmp_gt (tgt := 185) hx hb dX7_month_101 (by decide) (fun h => absurd h (by decide)) (fun _ => ?_)
  refine lv_iconst (v := 0) hx hb dX7_month_104 (by decide) ?_
  refine lv_istore (lv' := [(4, .int (0 : Int32)), (3, .int (8 : Int32)), (2, .int (0 : Int32)), (1, .int (0 : Int32)), (0, .ref f)]) hx hb dX7_month_105 hl (by decide) rfl (fun ls hl => ?_)
  refine lv_iload hx hb dX7_month_107 (lv_at hl 0 rfl) ?_
  refine lv_aload_n hx hb dX7_month_109 rfl (lv_at hl 4 rfl) ?_
  refine x_get (ref := RX7) (C := RX7) (T := TX7) (N := 14) (ci := 7) (v := .int (0 : Int32)) hx hb hts iX7 hown hK.1 hP (by omega) (by omega) hF.self rfl 9 (by decide) (hts (.fieldLink RX7 56 "PoreFieldModel$Field" "wellCount" "I") (by decide +kernel)) (fun _ h9 => h9) rfl dX7_month_110 ?_
  refine lv_icmp_ge (tgt := 179) hx hb dX7_month_113 (by decide) (fun _ => ?_) (fun h => absurd (by decide) h)
  refine lv_iinc (v := (9 : Int32)) (lv' := [(3, .int (9 : Int32)), (4, .int (0 : Int32)), (2, .int (0 : Int32)), (1, .int (0 : Int32)), (0, .ref f)]) hx hb dX7_month_179 hl (k := 1) rfl (by decide) (by decide) rfl (fun ls hl => ?_)
  refine lv_goto (tgt := 98) hx hb dX7_month_182 (by decide) ?_
  refine lv_iload_n hx hb dX7_month_98 rfl (lv_at hl 0 rfl) ?_
  refine lv_bipush (v := 9) hx hb dX7_month_99 (by decide) ?_
  refine lv_icmp_gt (tgt := 185) hx hb dX7_month_101 (by decide) (fun h => absurd h (by decide)) (fun _ => ?_)
  refine lv_iconst (v := 0) hx hb dX7_month_104 (by decide) ?_
  refine lv_istore (lv' := [(4, .int (0 : Int32)), (3, .int (9 : Int32)), (2, .int (0 : Int32)), (1, .int (0 : Int32)), (0, .ref f)]) hx hb dX7_month_105 hl (by decide) rfl (fun ls hl => ?_)
  refine lv_iload hx hb dX7_month_107 (lv_at hl 0 rfl) ?_
  refine lv_aload_n hx hb dX7_month_109 rfl (lv_at hl 4 rfl) ?_
  refine x_get (ref := RX7) (C := RX7) (T := TX7) (N := 14) (ci := 7) (v := .int (0 : Int32)) hx hb hts iX7 hown hK.1 hP (by omega) (by omega) hF.self rfl 9 (by decide) (hts (.fieldLink RX7 56 "PoreFieldModel$Field" "wellCount" "I") (by decide +kernel)) (fun _ h9 => h9) rfl dX7_month_110 ?_
  refine lv_icmp_ge (tgt := 179) hx hb dX7_month_113 (by decide) (fun _ => ?_) (fun h => absurd (by decide) h)
  refine lv_iinc (v := (10 : Int32)) (lv' := [(3, .int (10 : Int32)), (4, .int (0 : Int32)), (2, .int (0 : Int32)), (1, .int (0 : Int32)), (0, .ref f)]) hx hb dX7_month_179 hl (k := 1) rfl (by decide) (by decide) rfl (fun ls hl => ?_)
  refine lv_goto (tgt := 98) hx hb dX7_month_182 (by decide) ?_
  refine lv_iload_n hx hb dX7_month_98 rfl (lv_at hl 0 rfl) ?_
  refine lv_bipush (v := 9) hx hb dX7_month_99 (by decide) ?_
  refine lv_icmp_gt (tgt := 185) hx hb dX7_month_101 (by decide) (fun _ => ?_) (fun h => absurd (by decide) h)
  refine lv_iconst (v := 0) hx hb dX7_month_185 (by decide) ?_
  refine lv_istore_n (lv' := [(3, .int (0 : Int32)), (4, .int (0 : Int32)), (2, .int (0 : Int32)), (1, .int (0 : Int32)), (0, .ref f)]) hx hb dX7_month_186 rfl hl (by decide) rfl (fun ls hl => ?_)
  refine lv_iload_n hx hb dX7_month_187 rfl (lv_at hl 0 rfl) ?_
  refine lv_aload_n hx hb dX7_month_188 rfl (lv_at hl 4 rfl) ?_
  refine x_get (ref := RX7) (C := RX7) (T := TX7) (N := 14) (ci := 7) (v := .int (0 : Int32)) hx hb hts iX7 hown hK.1 hP (by omega) (by omega) hF.self rfl 9 (by decide) (hts (.fieldLink RX7 56 "PoreFieldModel$Field" "wellCount" "I") (by decide +kernel)) (fun _ h9 => h9) rfl dX7_month_189 ?_
  refine lv_icmp_ge (tgt := 215) hx hb dX7_month_192 (by decide) (fun _ => ?_) (fun h => absurd (by decide) h)
  refine lv_aload_n hx hb dX7_month_215 rfl (lv_at hl 4 rfl) ?_
  refine x_get (ref := RX7) (C := RX7) (T := TX7) (N := 14) (ci := 7) (v := .ref (f + 13)) hx hb hts iX7 hown hK.1 hP (by omega) (by omega) hF.self rfl 6 (by decide) (hts (.fieldLink RX7 33 "PoreFieldModel$Field" "sums" "[I") (by decide +kernel)) (fun _ h9 => h9) rfl dX7_month_216 ?_
  refine lv_iconst (v := 3) hx hb dX7_month_219 (by decide) ?_
  refine lv_dup2_11 hx hb dX7_month_220 rfl rfl ?_
  obtain ⟨d5, g5, q5⟩ := hF.sums
  refine x_iald hx hb hK.1 hP (by omega) (by omega) 0 g5 rfl (cl_of_nI (i := 3) rfl (by omega)) (vp_in_of_nI (i := 3) rfl (by omega) (by omega)) dX7_month_221 ?_
  refine x_top (v' := (0 : Int32)) (q5 _ (by omega)) ?_
  refine lv_iload_n hx hb dX7_month_222 rfl (lv_at hl 2 rfl) ?_
  refine lv_iadd hx hb dX7_month_223 ?_
  refine x_top (v' := 0) (by decide) ?_
  obtain ⟨d6, g6, q6⟩ := hF.sums
  refine x_iast hx hb hK.1 hP hS (by omega) (by omega) 0 g6 rfl (cl_of_nI (i := 3) rfl (by omega)) (vp_in_of_nI (i := 3) rfl (by omega) (by omega)) dX7_month_224 (fun H locs hP hS => ?_)
  refine x_gen hP (fun v4 e4 hP => ?_)
  have hF : FM cy v4 f (nw + (1 : Int32)) tk := by rw [e4]; exact hF.up_sums (upd_uni rfl q6)
  have hfr : fr f 16 w v4 := by rw [e4]; exact hfr.up (by omega) (by omega)
  refine lv_iconst (v := 0) hx hb dX7_month_225 (by decide) ?_
  refine lv_istore_n (lv' := [(3, .int (0 : Int32)), (4, .int (0 : Int32)), (2, .int (0 : Int32)), (1, .int (0 : Int32)), (0, .ref f)]) hx hb dX7_month_226 rfl hl (by decide) rfl (fun ls hl => ?_)
  refine lv_iload_n hx hb dX7_month_227 rfl (lv_at hl 0 rfl) ?_
  refine lv_aload_n hx hb dX7_month_228 rfl (lv_at hl 4 rfl) ?_
  refine x_get (ref := RX7) (C := RX7) (T := TX7) (N := 14) (ci := 7) (v := .int (0 : Int32)) hx hb hts iX7 hown hK.1 hP (by omega) (by omega) hF.self rfl 9 (by decide) (hts (.fieldLink RX7 56 "PoreFieldModel$Field" "wellCount" "I") (by decide +kernel)) (fun _ h9 => h9) rfl dX7_month_229 ?_
  refine lv_icmp_ge (tgt := 251) hx hb dX7_month_232 (by decide) (fun _ => ?_) (fun h => absurd (by decide) h)
  refine lv_iconst (v := 0) hx hb dX7_month_251 (by decide) ?_
  refine lv_istore_n (lv' := [(3, .int (0 : Int32)), (4, .int (0 : Int32)), (2, .int (0 : Int32)), (1, .int (0 : Int32)), (0, .ref f)]) hx hb dX7_month_252 rfl hl (by decide) rfl (fun ls hl => ?_)
  refine lv_iload_n hx hb dX7_month_253 rfl (lv_at hl 0 rfl) ?_
  refine lv_bipush (v := 16) hx hb dX7_month_254 (by decide) ?_
  refine lv_icmp_ge (tgt := 312) hx hb dX7_month_256 (by decide) (fun h => absurd h (by decide)) (fun _ => ?_)
  refine lv_iload_n hx hb dX7_month_259 rfl (lv_at hl 0 rfl) ?_
  refine lv_iconst (v := 4) hx hb dX7_month_260 (by decide) ?_
  refine lv_irem hx hb dX7_month_261 (by decide) ?_
  refine x_top (v' := 0) (by decide) ?_
  refine lv_iconst (v := 3) hx hb dX7_month_262 (by decide) ?_
  refine lv_icmp_ge (tgt := 283) hx hb dX7_month_263 (by decide) (fun h => absurd h (by decide)) (fun _ => ?_)
  refine lv_aload_n hx hb dX7_month_266 rfl (lv_at hl 4 rfl) ?_
  refine x_get (ref := RX7) (C := RX7) (T := TX7) (N := 14) (ci := 7) (v := .ref (f + 3)) hx hb hts iX7 hown hK.1 hP (by omega) (by omega) hF.self rfl 2 (by decide) (hts (.fieldLink RX7 18 "PoreFieldModel$Field" "east" "[Z") (by decide +kernel)) (fun _ h9 => h9) rfl dX7_month_267 ?_
  refine lv_iload_n hx hb dX7_month_270 rfl (lv_at hl 0 rfl) ?_
  obtain ⟨d7, g7, q7⟩ := hF.east
  refine x_zald hx hb hK.1 hP (by omega) (by omega) 5 g7 rfl (cl_of_nI (i := 0) rfl (by omega)) (vp_in_of_nI (i := 0) rfl (by omega) (by omega)) dX7_month_271 ?_
  refine x_top (v' := (0 : Int32)) (q7 _ (by omega)) ?_
  refine lv_if_ne (tgt := 283) hx hb dX7_month_272 (by decide) (fun h => absurd (by decide) h) (fun _ => ?_)
  refine lv_aload_n hx hb dX7_month_275 rfl (lv_at hl 4 rfl) ?_
  refine lv_iload_n hx hb dX7_month_276 rfl (lv_at hl 0 rfl) ?_
  refine lv_iload_n hx hb dX7_month_277 rfl (lv_at hl 0 rfl) ?_
  refine lv_iconst (v := 1) hx hb dX7_month_278 (by decide) ?_
  refine lv_iadd hx hb dX7_month_279 ?_
  refine x_top (v' := 1) (by decide) ?_
  refine x_callvx (va_runV (As := [.int (0 : Int32), .int (1 : Int32)]) (rest := []) ⟨hx, hb, hml, hown, hts⟩ (c_X7_level l D cy lo n v4 f (by omega) (by omega) (nw + (1 : Int32)) tk hF 0 (by omega) 1 (by omega)) (cwV 2 hts gX7_month_X7_level rfl rfl rfl (by decide +kernel) ⟨Nat.le_of_ble_eq_true rfl, Nat.le_of_ble_eq_true rfl⟩) (preV hP hK (x_recv (ci := 7) (q := (RX7, TX7, 14)) hK.1 hP (by omega) (by omega) rfl hF.self)) rfl rfl hl.1 rfl (lv_room (Nat.le_of_ble_eq_true rfl)) dX7_month_280 ⟨Nat.le_of_ble_eq_true rfl, Nat.le_of_ble_eq_true rfl⟩) hS (fun u5 H locs hX hP hS => ?_)
  obtain ⟨hF9, hf9⟩ := hX
  have hF := hF9
  have hfr := hfr.tr hf9 (by omega) (by omega)
  refine lv_iload_n hx hb dX7_month_283 rfl (lv_at hl 0 rfl) ?_
  refine lv_bipush (v := 12) hx hb dX7_month_284 (by decide) ?_
  refine lv_icmp_ge (tgt := 306) hx hb dX7_month_286 (by decide) (fun h => absurd h (by decide)) (fun _ => ?_)
  refine lv_aload_n hx hb dX7_month_289 rfl (lv_at hl 4 rfl) ?_
  refine x_get (ref := RX7) (C := RX7) (T := TX7) (N := 14) (ci := 7) (v := .ref (f + 4)) hx hb hts iX7 hown hK.1 hP (by omega) (by omega) hF.self rfl 3 (by decide) (hts (.fieldLink RX7 22 "PoreFieldModel$Field" "south" "[Z") (by decide +kernel)) (fun _ h9 => h9) rfl dX7_month_290 ?_
  refine lv_iload_n hx hb dX7_month_293 rfl (lv_at hl 0 rfl) ?_
  obtain ⟨d8, g8, q8⟩ := hF.south
  refine x_zald hx hb hK.1 hP (by omega) (by omega) 5 g8 rfl (cl_of_nI (i := 0) rfl (by omega)) (vp_in_of_nI (i := 0) rfl (by omega) (by omega)) dX7_month_294 ?_
  refine x_top (v' := (0 : Int32)) (q8 _ (by omega)) ?_
  refine lv_if_ne (tgt := 306) hx hb dX7_month_295 (by decide) (fun h => absurd (by decide) h) (fun _ => ?_)
  refine lv_aload_n hx hb dX7_month_298 rfl (lv_at hl 4 rfl) ?_
  refine lv_iload_n hx hb dX7_month_299 rfl (lv_at hl 0 rfl) ?_
  refine lv_iload_n hx hb dX7_month_300 rfl (lv_at hl 0 rfl) ?_
  refine lv_iconst (v := 4) hx hb dX7_month_301 (by decide) ?_
  refine lv_iadd hx hb dX7_month_302 ?_
  refine x_top (v' := 4) (by decide) ?_
  refine x_callvx (va_runV (As := [.int (0 : Int32), .int (4 : Int32)]) (rest := []) ⟨hx, hb, hml, hown, hts⟩ (c_X7_level l D cy lo n u5 f (by omega) (by omega) (nw + (1 : Int32)) tk hF 0 (by omega) 4 (by omega)) (cwV 2 hts gX7_month_X7_level rfl rfl rfl (by decide +kernel) ⟨Nat.le_of_ble_eq_true rfl, Nat.le_of_ble_eq_true rfl⟩) (preV hP hK (x_recv (ci := 7) (q := (RX7, TX7, 14)) hK.1 hP (by omega) (by omega) rfl hF.self)) rfl rfl hl.1 rfl (lv_room (Nat.le_of_ble_eq_true rfl)) dX7_month_303 ⟨Nat.le_of_ble_eq_true rfl, Nat.le_of_ble_eq_true rfl⟩) hS (fun u6 H locs hX hP hS => ?_)
  obtain ⟨hF9, hf9⟩ := hX
  have hF := hF9
  have hfr := hfr.tr hf9 (by omega) (by omega)
  refine lv_iinc (v := (1 : Int32)) (lv' := [(3, .int (1 : Int32)), (4, .int (0 : Int32)), (2, .int (0 : Int32)), (1, .int (0 : Int32)), (0, .ref f)]) hx hb dX7_month_306 hl (k := 0) rfl (by decide) (by decide) rfl (fun ls hl => ?_)
  refine lv_goto (tgt := 253) hx hb dX7_month_309 (by decide) ?_
  refine lv_iload_n hx hb dX7_month_253 rfl (lv_at hl 0 rfl) ?_
  refine lv_bipush (v := 16) hx hb dX7_month_254 (by decide) ?_
  refine lv_icmp_ge (tgt := 312) hx hb dX7_month_256 (by decide) (fun h => absurd h (by decide)) (fun _ => ?_)
  refine lv_iload_n hx hb dX7_month_259 rfl (lv_at hl 0 rfl) ?_
  refine lv_iconst (v := 4) hx hb dX7_month_260 (by decide) ?_
  refine lv_irem hx hb dX7_month_261 (by decide) ?_
  refine x_top (v' := 1) (by decide) ?_
  refine lv_iconst (v := 3) hx hb dX7_month_262 (by decide) ?_
  refine lv_icmp_ge (tgt := 283) hx hb dX7_month_263 (by decide) (fun h => absurd h (by decide)) (fun _ => ?_)
  refine lv_aload_n hx hb dX7_month_266 rfl (lv_at hl 4 rfl) ?_
  refine x_get (ref := RX7) (C := RX7) (T := TX7) (N := 14) (ci := 7) (v := .ref (f + 3)) hx hb hts iX7 hown hK.1 hP (by omega) (by omega) hF.self rfl 2 (by decide) (hts (.fieldLink RX7 18 "PoreFieldModel$Field" "east" "[Z") (by decide +kernel)) (fun _ h9 => h9) rfl dX7_month_267 ?_
  refine lv_iload_n hx hb dX7_month_270 rfl (lv_at hl 0 rfl) ?_
  obtain ⟨d9, g9, q9⟩ := hF.east
  refine x_zald hx hb hK.1 hP (by omega) (by omega) 5 g9 rfl (cl_of_nI (i := 1) rfl (by omega)) (vp_in_of_nI (i := 1) rfl (by omega) (by omega)) dX7_month_271 ?_
  refine x_top (v' := (0 : Int32)) (q9 _ (by omega)) ?_
  refine lv_if_ne (tgt := 283) hx hb dX7_month_272 (by decide) (fun h => absurd (by decide) h) (fun _ => ?_)
  refine lv_aload_n hx hb dX7_month_275 rfl (lv_at hl 4 rfl) ?_
  refine lv_iload_n hx hb dX7_month_276 rfl (lv_at hl 0 rfl) ?_
  refine lv_iload_n hx hb dX7_month_277 rfl (lv_at hl 0 rfl) ?_
  refine lv_iconst (v := 1) hx hb dX7_month_278 (by decide) ?_
  refine lv_iadd hx hb dX7_month_279 ?_
  refine x_top (v' := 2) (by decide) ?_
  refine x_callvx (va_runV (As := [.int (1 : Int32), .int (2 : Int32)]) (rest := []) ⟨hx, hb, hml, hown, hts⟩ (c_X7_level l D cy lo n u6 f (by omega) (by omega) (nw + (1 : Int32)) tk hF 1 (by omega) 2 (by omega)) (cwV 2 hts gX7_month_X7_level rfl rfl rfl (by decide +kernel) ⟨Nat.le_of_ble_eq_true rfl, Nat.le_of_ble_eq_true rfl⟩) (preV hP hK (x_recv (ci := 7) (q := (RX7, TX7, 14)) hK.1 hP (by omega) (by omega) rfl hF.self)) rfl rfl hl.1 rfl (lv_room (Nat.le_of_ble_eq_true rfl)) dX7_month_280 ⟨Nat.le_of_ble_eq_true rfl, Nat.le_of_ble_eq_true rfl⟩) hS (fun u7 H locs hX hP hS => ?_)
  obtain ⟨hF9, hf9⟩ := hX
  have hF := hF9
  have hfr := hfr.tr hf9 (by omega) (by omega)
  refine lv_iload_n hx hb dX7_month_283 rfl (lv_at hl 0 rfl) ?_
  refine lv_bipush (v := 12) hx hb dX7_month_284 (by decide) ?_
  refine lv_icmp_ge (tgt := 306) hx hb dX7_month_286 (by decide) (fun h => absurd h (by decide)) (fun _ => ?_)
  refine lv_aload_n hx hb dX7_month_289 rfl (lv_at hl 4 rfl) ?_
  refine x_get (ref := RX7) (C := RX7) (T := TX7) (N := 14) (ci := 7) (v := .ref (f + 4)) hx hb hts iX7 hown hK.1 hP (by omega) (by omega) hF.self rfl 3 (by decide) (hts (.fieldLink RX7 22 "PoreFieldModel$Field" "south" "[Z") (by decide +kernel)) (fun _ h9 => h9) rfl dX7_month_290 ?_
  refine lv_iload_n hx hb dX7_month_293 rfl (lv_at hl 0 rfl) ?_
  obtain ⟨d10, g10, q10⟩ := hF.south
  refine x_zald hx hb hK.1 hP (by omega) (by omega) 5 g10 rfl (cl_of_nI (i := 1) rfl (by omega)) (vp_in_of_nI (i := 1) rfl (by omega) (by omega)) dX7_month_294 ?_
  refine x_top (v' := (0 : Int32)) (q10 _ (by omega)) ?_
  refine lv_if_ne (tgt := 306) hx hb dX7_month_295 (by decide) (fun h => absurd (by decide) h) (fun _ => ?_)
  refine lv_aload_n hx hb dX7_month_298 rfl (lv_at hl 4 rfl) ?_
  refine lv_iload_n hx hb dX7_month_299 rfl (lv_at hl 0 rfl) ?_
  refine lv_iload_n hx hb dX7_month_300 rfl (lv_at hl 0 rfl) ?_
  refine lv_iconst (v := 4) hx hb dX7_month_301 (by decide) ?_
  refine lv_iadd hx hb dX7_month_302 ?_
  refine x_top (v' := 5) (by decide) ?_
  refine x_callvx (va_runV (As := [.int (1 : Int32), .int (5 : Int32)]) (rest := []) ⟨hx, hb, hml, hown, hts⟩ (c_X7_level l D cy lo n u7 f (by omega) (by omega) (nw + (1 : Int32)) tk hF 1 (by omega) 5 (by omega)) (cwV 2 hts gX7_month_X7_level rfl rfl rfl (by decide +kernel) ⟨Nat.le_of_ble_eq_true rfl, Nat.le_of_ble_eq_true rfl⟩) (preV hP hK (x_recv (ci := 7) (q := (RX7, TX7, 14)) hK.1 hP (by omega) (by omega) rfl hF.self)) rfl rfl hl.1 rfl (lv_room (Nat.le_of_ble_eq_true rfl)) dX7_month_303 ⟨Nat.le_of_ble_eq_true rfl, Nat.le_of_ble_eq_true rfl⟩) hS (fun u8 H locs hX hP hS => ?_)
  obtain ⟨hF9, hf9⟩ := hX
  have hF := hF9
  have hfr := hfr.tr hf9 (by omega) (by omega)
  refine lv_iinc (v := (2 : Int32)) (lv' := [(3, .int (2 : Int32)), (4, .int (0 : Int32)), (2, .int (0 : Int32)), (1, .int (0 : Int32)), (0, .ref f)]) hx hb dX7_month_306 hl (k := 0) rfl (by decide) (by decide) rfl (fun ls hl => ?_)
  refine lv_goto (tgt := 253) hx hb dX7_month_309 (by decide) ?_
  refine lv_iload_n hx hb dX7_month_253 rfl (lv_at hl 0 rfl) ?_
  refine lv_bipush (v := 16) hx hb dX7_month_254 (by decide) ?_
  refine lv_icmp_ge (tgt := 312) hx hb dX7_month_256 (by decide) (fun h => absurd h (by decide)) (fun _ => ?_)
  refine lv_iload_n hx hb dX7_month_259 rfl (lv_at hl 0 rfl) ?_
  refine lv_iconst (v := 4) hx hb dX7_month_260 (by decide) ?_
  refine lv_irem hx hb dX7_month_261 (by decide) ?_
  refine x_top (v' := 2) (by decide) ?_
  refine lv_iconst (v := 3) hx hb dX7_month_262 (by decide) ?_
  refine lv_icmp_ge (tgt := 283) hx hb dX7_month_263 (by decide) (fun h => absurd h (by decide)) (fun _ => ?_)
  refine lv_aload_n hx hb dX7_month_266 rfl (lv_at hl 4 rfl) ?_
  refine x_get (ref := RX7) (C := RX7) (T := TX7) (N := 14) (ci := 7) (v := .ref (f + 3)) hx hb hts iX7 hown hK.1 hP (by omega) (by omega) hF.self rfl 2 (by decide) (hts (.fieldLink RX7 18 "PoreFieldModel$Field" "east" "[Z") (by decide +kernel)) (fun _ h9 => h9) rfl dX7_month_267 ?_
  refine lv_iload_n hx hb dX7_month_270 rfl (lv_at hl 0 rfl) ?_
  obtain ⟨d11, g11, q11⟩ := hF.east
  refine x_zald hx hb hK.1 hP (by omega) (by omega) 5 g11 rfl (cl_of_nI (i := 2) rfl (by omega)) (vp_in_of_nI (i := 2) rfl (by omega) (by omega)) dX7_month_271 ?_
  refine x_top (v' := (0 : Int32)) (q11 _ (by omega)) ?_
  refine lv_if_ne (tgt := 283) hx hb dX7_month_272 (by decide) (fun h => absurd (by decide) h) (fun _ => ?_)
  refine lv_aload_n hx hb dX7_month_275 rfl (lv_at hl 4 rfl) ?_
  refine lv_iload_n hx hb dX7_month_276 rfl (lv_at hl 0 rfl) ?_
  refine lv_iload_n hx hb dX7_month_277 rfl (lv_at hl 0 rfl) ?_
  refine lv_iconst (v := 1) hx hb dX7_month_278 (by decide) ?_
  refine lv_iadd hx hb dX7_month_279 ?_
  refine x_top (v' := 3) (by decide) ?_
  refine x_callvx (va_runV (As := [.int (2 : Int32), .int (3 : Int32)]) (rest := []) ⟨hx, hb, hml, hown, hts⟩ (c_X7_level l D cy lo n u8 f (by omega) (by omega) (nw + (1 : Int32)) tk hF 2 (by omega) 3 (by omega)) (cwV 2 hts gX7_month_X7_level rfl rfl rfl (by decide +kernel) ⟨Nat.le_of_ble_eq_true rfl, Nat.le_of_ble_eq_true rfl⟩) (preV hP hK (x_recv (ci := 7) (q := (RX7, TX7, 14)) hK.1 hP (by omega) (by omega) rfl hF.self)) rfl rfl hl.1 rfl (lv_room (Nat.le_of_ble_eq_true rfl)) dX7_month_280 ⟨Nat.le_of_ble_eq_true rfl, Nat.le_of_ble_eq_true rfl⟩) hS (fun u9 H locs hX hP hS => ?_)
  obtain ⟨hF9, hf9⟩ := hX
  have hF := hF9
  have hfr := hfr.tr hf9 (by omega) (by omega)
  refine lv_iload_n hx hb dX7_month_283 rfl (lv_at hl 0 rfl) ?_
  refine lv_bipush (v := 12) hx hb dX7_month_284 (by decide) ?_
  refine lv_icmp_ge (tgt := 306) hx hb dX7_month_286 (by decide) (fun h => absurd h (by decide)) (fun _ => ?_)
  refine lv_aload_n hx hb dX7_month_289 rfl (lv_at hl 4 rfl) ?_
  refine x_get (ref := RX7) (C := RX7) (T := TX7) (N := 14) (ci := 7) (v := .ref (f + 4)) hx hb hts iX7 hown hK.1 hP (by omega) (by omega) hF.self rfl 3 (by decide) (hts (.fieldLink RX7 22 "PoreFieldModel$Field" "south" "[Z") (by decide +kernel)) (fun _ h9 => h9) rfl dX7_month_290 ?_
  refine lv_iload_n hx hb dX7_month_293 rfl (lv_at hl 0 rfl) ?_
  obtain ⟨d12, g12, q12⟩ := hF.south
  refine x_zald hx hb hK.1 hP (by omega) (by omega) 5 g12 rfl (cl_of_nI (i := 2) rfl (by omega)) (vp_in_of_nI (i := 2) rfl (by omega) (by omega)) dX7_month_294 ?_
  refine x_top (v' := (0 : Int32)) (q12 _ (by omega)) ?_
  refine lv_if_ne (tgt := 306) hx hb dX7_month_295 (by decide) (fun h => absurd (by decide) h) (fun _ => ?_)
  refine lv_aload_n hx hb dX7_month_298 rfl (lv_at hl 4 rfl) ?_
  refine lv_iload_n hx hb dX7_month_299 rfl (lv_at hl 0 rfl) ?_
  refine lv_iload_n hx hb dX7_month_300 rfl (lv_at hl 0 rfl) ?_
  refine lv_iconst (v := 4) hx hb dX7_month_301 (by decide) ?_
  refine lv_iadd hx hb dX7_month_302 ?_
  refine x_top (v' := 6) (by decide) ?_
  refine x_callvx (va_runV (As := [.int (2 : Int32), .int (6 : Int32)]) (rest := []) ⟨hx, hb, hml, hown, hts⟩ (c_X7_level l D cy lo n u9 f (by omega) (by omega) (nw + (1 : Int32)) tk hF 2 (by omega) 6 (by omega)) (cwV 2 hts gX7_month_X7_level rfl rfl rfl (by decide +kernel) ⟨Nat.le_of_ble_eq_true rfl, Nat.le_of_ble_eq_true rfl⟩) (preV hP hK (x_recv (ci := 7) (q := (RX7, TX7, 14)) hK.1 hP (by omega) (by omega) rfl hF.self)) rfl rfl hl.1 rfl (lv_room (Nat.le_of_ble_eq_true rfl)) dX7_month_303 ⟨Nat.le_of_ble_eq_true rfl, Nat.le_of_ble_eq_true rfl⟩) hS (fun u10 H locs hX hP hS => ?_)
  obtain ⟨hF9, hf9⟩ := hX
  have hF := hF9
  have hfr := hfr.tr hf9 (by omega) (by omega)
  refine lv_iinc (v := (3 : Int32)) (lv' := [(3, .int (3 : Int32)), (4, .int (0 : Int32)), (2, .int (0 : Int32)), (1, .int (0 : Int32)), (0, .ref f)]) hx hb dX7_month_306 hl (k := 0) rfl (by decide) (by decide) rfl (fun ls hl => ?_)
  refine lv_goto (tgt := 253) hx hb dX7_month_309 (by decide) ?_
  refine lv_iload_n hx hb dX7_month_253 rfl (lv_at hl 0 rfl) ?_
  refine lv_bipush (v := 16) hx hb dX7_month_254 (by decide) ?_
  refine lv_icmp_ge (tgt := 312) hx hb dX7_month_256 (by decide) (fun h => absurd h (by decide)) (fun _ => ?_)
  refine lv_iload_n hx hb dX7_month_259 rfl (lv_at hl 0 rfl) ?_
  refine lv_iconst (v := 4) hx hb dX7_month_260 (by decide) ?_
  refine lv_irem hx hb dX7_month_261 (by decide) ?_
  refine x_top (v' := 3) (by decide) ?_
  refine lv_iconst (v := 3) hx hb dX7_month_262 (by decide) ?_
  refine lv_icmp_ge (tgt := 283) hx hb dX7_month_263 (by decide) (fun _ => ?_) (fun h => absurd (by decide) h)
  refine lv_iload_n hx hb dX7_month_283 rfl (lv_at hl 0 rfl) ?_
  refine lv_bipush (v := 12) hx hb dX7_month_284 (by decide) ?_
  refine lv_icmp_ge (tgt := 306) hx hb dX7_month_286 (by decide) (fun h => absurd h (by decide)) (fun _ => ?_)
  refine lv_aload_n hx hb dX7_month_289 rfl (lv_at hl 4 rfl) ?_
  refine x_get (ref := RX7) (C := RX7) (T := TX7) (N := 14) (ci := 7) (v := .ref (f + 4)) hx hb hts iX7 hown hK.1 hP (by omega) (by omega) hF.self rfl 3 (by decide) (hts (.fieldLink RX7 22 "PoreFieldModel$Field" "south" "[Z") (by decide +kernel)) (fun _ h9 => h9) rfl dX7_month_290 ?_
  refine lv_iload_n hx hb dX7_month_293 rfl (lv_at hl 0 rfl) ?_
  obtain ⟨d13, g13, q13⟩ := hF.south
  refine x_zald hx hb hK.1 hP (by omega) (by omega) 5 g13 rfl (cl_of_nI (i := 3) rfl (by omega)) (vp_in_of_nI (i := 3) rfl (by omega) (by omega)) dX7_month_294 ?_
  refine x_top (v' := (0 : Int32)) (q13 _ (by omega)) ?_
  refine lv_if_ne (tgt := 306) hx hb dX7_month_295 (by decide) (fun h => absurd (by decide) h) (fun _ => ?_)
  refine lv_aload_n hx hb dX7_month_298 rfl (lv_at hl 4 rfl) ?_
  refine lv_iload_n hx hb dX7_month_299 rfl (lv_at hl 0 rfl) ?_
  refine lv_iload_n hx hb dX7_month_300 rfl (lv_at hl 0 rfl) ?_
  refine lv_iconst (v := 4) hx hb dX7_month_301 (by decide) ?_
  refine lv_iadd hx hb dX7_month_302 ?_
  refine x_top (v' := 7) (by decide) ?_
  refine x_callvx (va_runV (As := [.int (3 : Int32), .int (7 : Int32)]) (rest := []) ⟨hx, hb, hml, hown, hts⟩ (c_X7_level l D cy lo n u10 f (by omega) (by omega) (nw + (1 : Int32)) tk hF 3 (by omega) 7 (by omega)) (cwV 2 hts gX7_month_X7_level rfl rfl rfl (by decide +kernel) ⟨Nat.le_of_ble_eq_true rfl, Nat.le_of_ble_eq_true rfl⟩) (preV hP hK (x_recv (ci := 7) (q := (RX7, TX7, 14)) hK.1 hP (by omega) (by omega) rfl hF.self)) rfl rfl hl.1 rfl (lv_room (Nat.le_of_ble_eq_true rfl)) dX7_month_303 ⟨Nat.le_of_ble_eq_true rfl, Nat.le_of_ble_eq_true rfl⟩) hS (fun u11 H locs hX hP hS => ?_)
  obtain ⟨hF9, hf9⟩ := hX
  have hF := hF9
  have hfr := hfr.tr hf9 (by omega) (by omega)
  refine lv_iinc (v := (4 : Int32)) (lv' := [(3, .int (4 : Int32)), (4, .int (0 : Int32)), (2, .int (0 : Int32)), (1, .int (0 : Int32)), (0, .ref f)]) hx hb dX7_month_306 hl (k := 0) rfl (by decide) (by decide) rfl (fun ls hl => ?_)
  refine lv_goto (tgt := 253) hx hb dX7_month_309 (by decide) ?_
  refine lv_iload_n hx hb dX7_month_253 rfl (lv_at hl 0 rfl) ?_
  refine lv_bipush (v := 16) hx hb dX7_month_254 (by decide) ?_
  refine lv_icmp_ge (tgt := 312) hx hb dX7_month_256 (by decide) (fun h => absurd h (by decide)) (fun _ => ?_)
  refine lv_iload_n hx hb dX7_month_259 rfl (lv_at hl 0 rfl) ?_
  refine lv_iconst (v := 4) hx hb dX7_month_260 (by decide) ?_
  refine lv_irem hx hb dX7_month_261 (by decide) ?_
  refine x_top (v' := 0) (by decide) ?_
  refine lv_iconst (v := 3) hx hb dX7_month_262 (by decide) ?_
  refine lv_icmp_ge (tgt := 283) hx hb dX7_month_263 (by decide) (fun h => absurd h (by decide)) (fun _ => ?_)
  refine lv_aload_n hx hb dX7_month_266 rfl (lv_at hl 4 rfl) ?_
  refine x_get (ref := RX7) (C := RX7) (T := TX7) (N := 14) (ci := 7) (v := .ref (f + 3)) hx hb hts iX7 hown hK.1 hP (by omega) (by omega) hF.self rfl 2 (by decide) (hts (.fieldLink RX7 18 "PoreFieldModel$Field" "east" "[Z") (by decide +kernel)) (fun _ h9 => h9) rfl dX7_month_267 ?_
  refine lv_iload_n hx hb dX7_month_270 rfl (lv_at hl 0 rfl) ?_
  obtain ⟨d14, g14, q14⟩ := hF.east
  refine x_zald hx hb hK.1 hP (by omega) (by omega) 5 g14 rfl (cl_of_nI (i := 4) rfl (by omega)) (vp_in_of_nI (i := 4) rfl (by omega) (by omega)) dX7_month_271 ?_
  refine x_top (v' := (0 : Int32)) (q14 _ (by omega)) ?_
  refine lv_if_ne (tgt := 283) hx hb dX7_month_272 (by decide) (fun h => absurd (by decide) h) (fun _ => ?_)
  refine lv_aload_n hx hb dX7_month_275 rfl (lv_at hl 4 rfl) ?_
  refine lv_iload_n hx hb dX7_month_276 rfl (lv_at hl 0 rfl) ?_
  refine lv_iload_n hx hb dX7_month_277 rfl (lv_at hl 0 rfl) ?_
  refine lv_iconst (v := 1) hx hb dX7_month_278 (by decide) ?_
  refine lv_iadd hx hb dX7_month_279 ?_
  refine x_top (v' := 5) (by decide) ?_
  refine x_callvx (va_runV (As := [.int (4 : Int32), .int (5 : Int32)]) (rest := []) ⟨hx, hb, hml, hown, hts⟩ (c_X7_level l D cy lo n u11 f (by omega) (by omega) (nw + (1 : Int32)) tk hF 4 (by omega) 5 (by omega)) (cwV 2 hts gX7_month_X7_level rfl rfl rfl (by decide +kernel) ⟨Nat.le_of_ble_eq_true rfl, Nat.le_of_ble_eq_true rfl⟩) (preV hP hK (x_recv (ci := 7) (q := (RX7, TX7, 14)) hK.1 hP (by omega) (by omega) rfl hF.self)) rfl rfl hl.1 rfl (lv_room (Nat.le_of_ble_eq_true rfl)) dX7_month_280 ⟨Nat.le_of_ble_eq_true rfl, Nat.le_of_ble_eq_true rfl⟩) hS (fun u12 H locs hX hP hS => ?_)
  obtain ⟨hF9, hf9⟩ := hX
  have hF := hF9
  have hfr := hfr.tr hf9 (by omega) (by omega)
  refine lv_iload_n hx hb dX7_month_283 rfl (lv_at hl 0 rfl) ?_
  refine lv_bipush (v := 12) hx hb dX7_month_284 (by decide) ?_
  refine lv_icmp_ge (tgt := 306) hx hb dX7_month_286 (by decide) (fun h => absurd h (by decide)) (fun _ => ?_)
  refine lv_aload_n hx hb dX7_month_289 rfl (lv_at hl 4 rfl) ?_
  refine x_get (ref := RX7) (C := RX7) (T := TX7) (N := 14) (ci := 7) (v := .ref (f + 4)) hx hb hts iX7 hown hK.1 hP (by omega) (by omega) hF.self rfl 3 (by decide) (hts (.fieldLink RX7 22 "PoreFieldModel$Field" "south" "[Z") (by decide +kernel)) (fun _ h9 => h9) rfl dX7_month_290 ?_
  refine lv_iload_n hx hb dX7_month_293 rfl (lv_at hl 0 rfl) ?_
  obtain ⟨d15, g15, q15⟩ := hF.south
  refine x_zald hx hb hK.1 hP (by omega) (by omega) 5 g15 rfl (cl_of_nI (i := 4) rfl (by omega)) (vp_in_of_nI (i := 4) rfl (by omega) (by omega)) dX7_month_294 ?_
  refine x_top (v' := (0 : Int32)) (q15 _ (by omega)) ?_
  refine lv_if_ne (tgt := 306) hx hb dX7_month_295 (by decide) (fun h => absurd (by decide) h) (fun _ => ?_)
  refine lv_aload_n hx hb dX7_month_298 rfl (lv_at hl 4 rfl) ?_
  refine lv_iload_n hx hb dX7_month_299 rfl (lv_at hl 0 rfl) ?_
  refine lv_iload_n hx hb dX7_month_300 rfl (lv_at hl 0 rfl) ?_
  refine lv_iconst (v := 4) hx hb dX7_month_301 (by decide) ?_
  refine lv_iadd hx hb dX7_month_302 ?_
  refine x_top (v' := 8) (by decide) ?_
  refine x_callvx (va_runV (As := [.int (4 : Int32), .int (8 : Int32)]) (rest := []) ⟨hx, hb, hml, hown, hts⟩ (c_X7_level l D cy lo n u12 f (by omega) (by omega) (nw + (1 : Int32)) tk hF 4 (by omega) 8 (by omega)) (cwV 2 hts gX7_month_X7_level rfl rfl rfl (by decide +kernel) ⟨Nat.le_of_ble_eq_true rfl, Nat.le_of_ble_eq_true rfl⟩) (preV hP hK (x_recv (ci := 7) (q := (RX7, TX7, 14)) hK.1 hP (by omega) (by omega) rfl hF.self)) rfl rfl hl.1 rfl (lv_room (Nat.le_of_ble_eq_true rfl)) dX7_month_303 ⟨Nat.le_of_ble_eq_true rfl, Nat.le_of_ble_eq_true rfl⟩) hS (fun u13 H locs hX hP hS => ?_)
  obtain ⟨hF9, hf9⟩ := hX
  have hF := hF9
  have hfr := hfr.tr hf9 (by omega) (by omega)
  refine lv_iinc (v := (5 : Int32)) (lv' := [(3, .int (5 : Int32)), (4, .int (0 : Int32)), (2, .int (0 : Int32)), (1, .int (0 : Int32)), (0, .ref f)]) hx hb dX7_month_306 hl (k := 0) rfl (by decide) (by decide) rfl (fun ls hl => ?_)
  refine lv_goto (tgt := 253) hx hb dX7_month_309 (by decide) ?_
  refine lv_iload_n hx hb dX7_month_253 rfl (lv_at hl 0 rfl) ?_
  refine lv_bipush (v := 16) hx hb dX7_month_254 (by decide) ?_
  refine lv_icmp_ge (tgt := 312) hx hb dX7_month_256 (by decide) (fun h => absurd h (by decide)) (fun _ => ?_)
  refine lv_iload_n hx hb dX7_month_259 rfl (lv_at hl 0 rfl) ?_
  refine lv_iconst (v := 4) hx hb dX7_month_260 (by decide) ?_
  refine lv_irem hx hb dX7_month_261 (by decide) ?_
  refine x_top (v' := 1) (by decide) ?_
  refine lv_iconst (v := 3) hx hb dX7_month_262 (by decide) ?_
  refine lv_icmp_ge (tgt := 283) hx hb dX7_month_263 (by decide) (fun h => absurd h (by decide)) (fun _ => ?_)
  refine lv_aload_n hx hb dX7_month_266 rfl (lv_at hl 4 rfl) ?_
  refine x_get (ref := RX7) (C := RX7) (T := TX7) (N := 14) (ci := 7) (v := .ref (f + 3)) hx hb hts iX7 hown hK.1 hP (by omega) (by omega) hF.self rfl 2 (by decide) (hts (.fieldLink RX7 18 "PoreFieldModel$Field" "east" "[Z") (by decide +kernel)) (fun _ h9 => h9) rfl dX7_month_267 ?_
  refine lv_iload_n hx hb dX7_month_270 rfl (lv_at hl 0 rfl) ?_
  obtain ⟨d16, g16, q16⟩ := hF.east
  refine x_zald hx hb hK.1 hP (by omega) (by omega) 5 g16 rfl (cl_of_nI (i := 5) rfl (by omega)) (vp_in_of_nI (i := 5) rfl (by omega) (by omega)) dX7_month_271 ?_
  refine x_top (v' := (0 : Int32)) (q16 _ (by omega)) ?_
  refine lv_if_ne (tgt := 283) hx hb dX7_month_272 (by decide) (fun h => absurd (by decide) h) (fun _ => ?_)
  refine lv_aload_n hx hb dX7_month_275 rfl (lv_at hl 4 rfl) ?_
  refine lv_iload_n hx hb dX7_month_276 rfl (lv_at hl 0 rfl) ?_
  refine lv_iload_n hx hb dX7_month_277 rfl (lv_at hl 0 rfl) ?_
  refine lv_iconst (v := 1) hx hb dX7_month_278 (by decide) ?_
  refine lv_iadd hx hb dX7_month_279 ?_
  refine x_top (v' := 6) (by decide) ?_
  refine x_callvx (va_runV (As := [.int (5 : Int32), .int (6 : Int32)]) (rest := []) ⟨hx, hb, hml, hown, hts⟩ (c_X7_level l D cy lo n u13 f (by omega) (by omega) (nw + (1 : Int32)) tk hF 5 (by omega) 6 (by omega)) (cwV 2 hts gX7_month_X7_level rfl rfl rfl (by decide +kernel) ⟨Nat.le_of_ble_eq_true rfl, Nat.le_of_ble_eq_true rfl⟩) (preV hP hK (x_recv (ci := 7) (q := (RX7, TX7, 14)) hK.1 hP (by omega) (by omega) rfl hF.self)) rfl rfl hl.1 rfl (lv_room (Nat.le_of_ble_eq_true rfl)) dX7_month_280 ⟨Nat.le_of_ble_eq_true rfl, Nat.le_of_ble_eq_true rfl⟩) hS (fun u14 H locs hX hP hS => ?_)
  obtain ⟨hF9, hf9⟩ := hX
  have hF := hF9
  have hfr := hfr.tr hf9 (by omega) (by omega)
  refine lv_iload_n hx hb dX7_month_283 rfl (lv_at hl 0 rfl) ?_
  refine lv_bipush (v := 12) hx hb dX7_month_284 (by decide) ?_
  refine lv_icmp_ge (tgt := 306) hx hb dX7_month_286 (by decide) (fun h => absurd h (by decide)) (fun _ => ?_)
  refine lv_aload_n hx hb dX7_month_289 rfl (lv_at hl 4 rfl) ?_
  refine x_get (ref := RX7) (C := RX7) (T := TX7) (N := 14) (ci := 7) (v := .ref (f + 4)) hx hb hts iX7 hown hK.1 hP (by omega) (by omega) hF.self rfl 3 (by decide) (hts (.fieldLink RX7 22 "PoreFieldModel$Field" "south" "[Z") (by decide +kernel)) (fun _ h9 => h9) rfl dX7_month_290 ?_
  refine lv_iload_n hx hb dX7_month_293 rfl (lv_at hl 0 rfl) ?_
  obtain ⟨d17, g17, q17⟩ := hF.south
  refine x_zald hx hb hK.1 hP (by omega) (by omega) 5 g17 rfl (cl_of_nI (i := 5) rfl (by omega)) (vp_in_of_nI (i := 5) rfl (by omega) (by omega)) dX7_month_294 ?_
  refine x_top (v' := (0 : Int32)) (q17 _ (by omega)) ?_
  refine lv_if_ne (tgt := 306) hx hb dX7_month_295 (by decide) (fun h => absurd (by decide) h) (fun _ => ?_)
  refine lv_aload_n hx hb dX7_month_298 rfl (lv_at hl 4 rfl) ?_
  refine lv_iload_n hx hb dX7_month_299 rfl (lv_at hl 0 rfl) ?_
  refine lv_iload_n hx hb dX7_month_300 rfl (lv_at hl 0 rfl) ?_
  refine lv_iconst (v := 4) hx hb dX7_month_301 (by decide) ?_
  refine lv_iadd hx hb dX7_month_302 ?_
  refine x_top (v' := 9) (by decide) ?_
  refine x_callvx (va_runV (As := [.int (5 : Int32), .int (9 : Int32)]) (rest := []) ⟨hx, hb, hml, hown, hts⟩ (c_X7_level l D cy lo n u14 f (by omega) (by omega) (nw + (1 : Int32)) tk hF 5 (by omega) 9 (by omega)) (cwV 2 hts gX7_month_X7_level rfl rfl rfl (by decide +kernel) ⟨Nat.le_of_ble_eq_true rfl, Nat.le_of_ble_eq_true rfl⟩) (preV hP hK (x_recv (ci := 7) (q := (RX7, TX7, 14)) hK.1 hP (by omega) (by omega) rfl hF.self)) rfl rfl hl.1 rfl (lv_room (Nat.le_of_ble_eq_true rfl)) dX7_month_303 ⟨Nat.le_of_ble_eq_true rfl, Nat.le_of_ble_eq_true rfl⟩) hS (fun u15 H locs hX hP hS => ?_)
  obtain ⟨hF9, hf9⟩ := hX
  have hF := hF9
  have hfr := hfr.tr hf9 (by omega) (by omega)
  refine lv_iinc (v := (6 : Int32)) (lv' := [(3, .int (6 : Int32)), (4, .int (0 : Int32)), (2, .int (0 : Int32)), (1, .int (0 : Int32)), (0, .ref f)]) hx hb dX7_month_306 hl (k := 0) rfl (by decide) (by decide) rfl (fun ls hl => ?_)
  refine lv_goto (tgt := 253) hx hb dX7_month_309 (by decide) ?_
  refine lv_iload_n hx hb dX7_month_253 rfl (lv_at hl 0 rfl) ?_
  refine lv_bipush (v := 16) hx hb dX7_month_254 (by decide) ?_
  refine lv_icmp_ge (tgt := 312) hx hb dX7_month_256 (by decide) (fun h => absurd h (by decide)) (fun _ => ?_)
  refine lv_iload_n hx hb dX7_month_259 rfl (lv_at hl 0 rfl) ?_
  refine lv_iconst (v := 4) hx hb dX7_month_260 (by decide) ?_
  refine lv_irem hx hb dX7_month_261 (by decide) ?_
  refine x_top (v' := 2) (by decide) ?_
  refine lv_iconst (v := 3) hx hb dX7_month_262 (by decide) ?_
  refine lv_icmp_ge (tgt := 283) hx hb dX7_month_263 (by decide) (fun h => absurd h (by decide)) (fun _ => ?_)
  refine lv_aload_n hx hb dX7_month_266 rfl (lv_at hl 4 rfl) ?_
  refine x_get (ref := RX7) (C := RX7) (T := TX7) (N := 14) (ci := 7) (v := .ref (f + 3)) hx hb hts iX7 hown hK.1 hP (by omega) (by omega) hF.self rfl 2 (by decide) (hts (.fieldLink RX7 18 "PoreFieldModel$Field" "east" "[Z") (by decide +kernel)) (fun _ h9 => h9) rfl dX7_month_267 ?_
  refine lv_iload_n hx hb dX7_month_270 rfl (lv_at hl 0 rfl) ?_
  obtain ⟨d18, g18, q18⟩ := hF.east
  refine x_zald hx hb hK.1 hP (by omega) (by omega) 5 g18 rfl (cl_of_nI (i := 6) rfl (by omega)) (vp_in_of_nI (i := 6) rfl (by omega) (by omega)) dX7_month_271 ?_
  refine x_top (v' := (0 : Int32)) (q18 _ (by omega)) ?_
  refine lv_if_ne (tgt := 283) hx hb dX7_month_272 (by decide) (fun h => absurd (by decide) h) (fun _ => ?_)
  refine lv_aload_n hx hb dX7_month_275 rfl (lv_at hl 4 rfl) ?_
  refine lv_iload_n hx hb dX7_month_276 rfl (lv_at hl 0 rfl) ?_
  refine lv_iload_n hx hb dX7_month_277 rfl (lv_at hl 0 rfl) ?_
  refine lv_iconst (v := 1) hx hb dX7_month_278 (by decide) ?_
  refine lv_iadd hx hb dX7_month_279 ?_
  refine x_top (v' := 7) (by decide) ?_
  refine x_callvx (va_runV (As := [.int (6 : Int32), .int (7 : Int32)]) (rest := []) ⟨hx, hb, hml, hown, hts⟩ (c_X7_level l D cy lo n u15 f (by omega) (by omega) (nw + (1 : Int32)) tk hF 6 (by omega) 7 (by omega)) (cwV 2 hts gX7_month_X7_level rfl rfl rfl (by decide +kernel) ⟨Nat.le_of_ble_eq_true rfl, Nat.le_of_ble_eq_true rfl⟩) (preV hP hK (x_recv (ci := 7) (q := (RX7, TX7, 14)) hK.1 hP (by omega) (by omega) rfl hF.self)) rfl rfl hl.1 rfl (lv_room (Nat.le_of_ble_eq_true rfl)) dX7_month_280 ⟨Nat.le_of_ble_eq_true rfl, Nat.le_of_ble_eq_true rfl⟩) hS (fun u16 H locs hX hP hS => ?_)
  obtain ⟨hF9, hf9⟩ := hX
  have hF := hF9
  have hfr := hfr.tr hf9 (by omega) (by omega)
  refine lv_iload_n hx hb dX7_month_283 rfl (lv_at hl 0 rfl) ?_
  refine lv_bipush (v := 12) hx hb dX7_month_284 (by decide) ?_
  refine lv_icmp_ge (tgt := 306) hx hb dX7_month_286 (by decide) (fun h => absurd h (by decide)) (fun _ => ?_)
  refine lv_aload_n hx hb dX7_month_289 rfl (lv_at hl 4 rfl) ?_
  refine x_get (ref := RX7) (C := RX7) (T := TX7) (N := 14) (ci := 7) (v := .ref (f + 4)) hx hb hts iX7 hown hK.1 hP (by omega) (by omega) hF.self rfl 3 (by decide) (hts (.fieldLink RX7 22 "PoreFieldModel$Field" "south" "[Z") (by decide +kernel)) (fun _ h9 => h9) rfl dX7_month_290 ?_
  refine lv_iload_n hx hb dX7_month_293 rfl (lv_at hl 0 rfl) ?_
  obtain ⟨d19, g19, q19⟩ := hF.south
  refine x_zald hx hb hK.1 hP (by omega) (by omega) 5 g19 rfl (cl_of_nI (i := 6) rfl (by omega)) (vp_in_of_nI (i := 6) rfl (by omega) (by omega)) dX7_month_294 ?_
  refine x_top (v' := (0 : Int32)) (q19 _ (by omega)) ?_
  refine lv_if_ne (tgt := 306) hx hb dX7_month_295 (by decide) (fun h => absurd (by decide) h) (fun _ => ?_)
  refine lv_aload_n hx hb dX7_month_298 rfl (lv_at hl 4 rfl) ?_
  refine lv_iload_n hx hb dX7_month_299 rfl (lv_at hl 0 rfl) ?_
  refine lv_iload_n hx hb dX7_month_300 rfl (lv_at hl 0 rfl) ?_
  refine lv_iconst (v := 4) hx hb dX7_month_301 (by decide) ?_
  refine lv_iadd hx hb dX7_month_302 ?_
  refine x_top (v' := 10) (by decide) ?_
  refine x_callvx (va_runV (As := [.int (6 : Int32), .int (10 : Int32)]) (rest := []) ⟨hx, hb, hml, hown, hts⟩ (c_X7_level l D cy lo n u16 f (by omega) (by omega) (nw + (1 : Int32)) tk hF 6 (by omega) 10 (by omega)) (cwV 2 hts gX7_month_X7_level rfl rfl rfl (by decide +kernel) ⟨Nat.le_of_ble_eq_true rfl, Nat.le_of_ble_eq_true rfl⟩) (preV hP hK (x_recv (ci := 7) (q := (RX7, TX7, 14)) hK.1 hP (by omega) (by omega) rfl hF.self)) rfl rfl hl.1 rfl (lv_room (Nat.le_of_ble_eq_true rfl)) dX7_month_303 ⟨Nat.le_of_ble_eq_true rfl, Nat.le_of_ble_eq_true rfl⟩) hS (fun u17 H locs hX hP hS => ?_)
  obtain ⟨hF9, hf9⟩ := hX
  have hF := hF9
  have hfr := hfr.tr hf9 (by omega) (by omega)
  refine lv_iinc (v := (7 : Int32)) (lv' := [(3, .int (7 : Int32)), (4, .int (0 : Int32)), (2, .int (0 : Int32)), (1, .int (0 : Int32)), (0, .ref f)]) hx hb dX7_month_306 hl (k := 0) rfl (by decide) (by decide) rfl (fun ls hl => ?_)
  refine lv_goto (tgt := 253) hx hb dX7_month_309 (by decide) ?_
  refine lv_iload_n hx hb dX7_month_253 rfl (lv_at hl 0 rfl) ?_
  refine lv_bipush (v := 16) hx hb dX7_month_254 (by decide) ?_
  refine lv_icmp_ge (tgt := 312) hx hb dX7_month_256 (by decide) (fun h => absurd h (by decide)) (fun _ => ?_)
  refine lv_iload_n hx hb dX7_month_259 rfl (lv_at hl 0 rfl) ?_
  refine lv_iconst (v := 4) hx hb dX7_month_260 (by decide) ?_
  refine lv_irem hx hb dX7_month_261 (by decide) ?_
  refine x_top (v' := 3) (by decide) ?_
  refine lv_iconst (v := 3) hx hb dX7_month_262 (by decide) ?_
  refine lv_icmp_ge (tgt := 283) hx hb dX7_month_263 (by decide) (fun _ => ?_) (fun h => absurd (by decide) h)
  refine lv_iload_n hx hb dX7_month_283 rfl (lv_at hl 0 rfl) ?_
  refine lv_bipush (v := 12) hx hb dX7_month_284 (by decide) ?_
  refine lv_icmp_ge (tgt := 306) hx hb dX7_month_286 (by decide) (fun h => absurd h (by decide)) (fun _ => ?_)
  refine lv_aload_n hx hb dX7_month_289 rfl (lv_at hl 4 rfl) ?_
  refine x_get (ref := RX7) (C := RX7) (T := TX7) (N := 14) (ci := 7) (v := .ref (f + 4)) hx hb hts iX7 hown hK.1 hP (by omega) (by omega) hF.self rfl 3 (by decide) (hts (.fieldLink RX7 22 "PoreFieldModel$Field" "south" "[Z") (by decide +kernel)) (fun _ h9 => h9) rfl dX7_month_290 ?_
  refine lv_iload_n hx hb dX7_month_293 rfl (lv_at hl 0 rfl) ?_
  obtain ⟨d20, g20, q20⟩ := hF.south
  refine x_zald hx hb hK.1 hP (by omega) (by omega) 5 g20 rfl (cl_of_nI (i := 7) rfl (by omega)) (vp_in_of_nI (i := 7) rfl (by omega) (by omega)) dX7_month_294 ?_
  refine x_top (v' := (0 : Int32)) (q20 _ (by omega)) ?_
  refine lv_if_ne (tgt := 306) hx hb dX7_month_295 (by decide) (fun h => absurd (by decide) h) (fun _ => ?_)
  refine lv_aload_n hx hb dX7_month_298 rfl (lv_at hl 4 rfl) ?_
  refine lv_iload_n hx hb dX7_month_299 rfl (lv_at hl 0 rfl) ?_
  refine lv_iload_n hx hb dX7_month_300 rfl (lv_at hl 0 rfl) ?_
  refine lv_iconst (v := 4) hx hb dX7_month_301 (by decide) ?_
  refine lv_iadd hx hb dX7_month_302 ?_
  refine x_top (v' := 11) (by decide) ?_
  refine x_callvx (va_runV (As := [.int (7 : Int32), .int (11 : Int32)]) (rest := []) ⟨hx, hb, hml, hown, hts⟩ (c_X7_level l D cy lo n u17 f (by omega) (by omega) (nw + (1 : Int32)) tk hF 7 (by omega) 11 (by omega)) (cwV 2 hts gX7_month_X7_level rfl rfl rfl (by decide +kernel) ⟨Nat.le_of_ble_eq_true rfl, Nat.le_of_ble_eq_true rfl⟩) (preV hP hK (x_recv (ci := 7) (q := (RX7, TX7, 14)) hK.1 hP (by omega) (by omega) rfl hF.self)) rfl rfl hl.1 rfl (lv_room (Nat.le_of_ble_eq_true rfl)) dX7_month_303 ⟨Nat.le_of_ble_eq_true rfl, Nat.le_of_ble_eq_true rfl⟩) hS (fun u18 H locs hX hP hS => ?_)
  obtain ⟨hF9, hf9⟩ := hX
  have hF := hF9
  have hfr := hfr.tr hf9 (by omega) (by omega)
  refine lv_iinc (v := (8 : Int32)) (lv' := [(3, .int (8 : Int32)), (4, .int (0 : Int32)), (2, .int (0 : Int32)), (1, .int (0 : Int32)), (0, .ref f)]) hx hb dX7_month_306 hl (k := 0) rfl (by decide) (by decide) rfl (fun ls hl => ?_)
  refine lv_goto (tgt := 253) hx hb dX7_month_309 (by decide) ?_
  refine lv_iload_n hx hb dX7_month_253 rfl (lv_at hl 0 rfl) ?_
  refine lv_bipush (v := 16) hx hb dX7_month_254 (by decide) ?_
  refine lv_icmp_ge (tgt := 312) hx hb dX7_month_256 (by decide) (fun h => absurd h (by decide)) (fun _ => ?_)
  refine lv_iload_n hx hb dX7_month_259 rfl (lv_at hl 0 rfl) ?_
  refine lv_iconst (v := 4) hx hb dX7_month_260 (by decide) ?_
  refine lv_irem hx hb dX7_month_261 (by decide) ?_
  refine x_top (v' := 0) (by decide) ?_
  refine lv_iconst (v := 3) hx hb dX7_month_262 (by decide) ?_
  refine lv_icmp_ge (tgt := 283) hx hb dX7_month_263 (by decide) (fun h => absurd h (by decide)) (fun _ => ?_)
  refine lv_aload_n hx hb dX7_month_266 rfl (lv_at hl 4 rfl) ?_
  refine x_get (ref := RX7) (C := RX7) (T := TX7) (N := 14) (ci := 7) (v := .ref (f + 3)) hx hb hts iX7 hown hK.1 hP (by omega) (by omega) hF.self rfl 2 (by decide) (hts (.fieldLink RX7 18 "PoreFieldModel$Field" "east" "[Z") (by decide +kernel)) (fun _ h9 => h9) rfl dX7_month_267 ?_
  refine lv_iload_n hx hb dX7_month_270 rfl (lv_at hl 0 rfl) ?_
  obtain ⟨d21, g21, q21⟩ := hF.east
  refine x_zald hx hb hK.1 hP (by omega) (by omega) 5 g21 rfl (cl_of_nI (i := 8) rfl (by omega)) (vp_in_of_nI (i := 8) rfl (by omega) (by omega)) dX7_month_271 ?_
  refine x_top (v' := (0 : Int32)) (q21 _ (by omega)) ?_
  refine lv_if_ne (tgt := 283) hx hb dX7_month_272 (by decide) (fun h => absurd (by decide) h) (fun _ => ?_)
  refine lv_aload_n hx hb dX7_month_275 rfl (lv_at hl 4 rfl) ?_
  refine lv_iload_n hx hb dX7_month_276 rfl (lv_at hl 0 rfl) ?_
  refine lv_iload_n hx hb dX7_month_277 rfl (lv_at hl 0 rfl) ?_
  refine lv_iconst (v := 1) hx hb dX7_month_278 (by decide) ?_
  refine lv_iadd hx hb dX7_month_279 ?_
  refine x_top (v' := 9) (by decide) ?_
  refine x_callvx (va_runV (As := [.int (8 : Int32), .int (9 : Int32)]) (rest := []) ⟨hx, hb, hml, hown, hts⟩ (c_X7_level l D cy lo n u18 f (by omega) (by omega) (nw + (1 : Int32)) tk hF 8 (by omega) 9 (by omega)) (cwV 2 hts gX7_month_X7_level rfl rfl rfl (by decide +kernel) ⟨Nat.le_of_ble_eq_true rfl, Nat.le_of_ble_eq_true rfl⟩) (preV hP hK (x_recv (ci := 7) (q := (RX7, TX7, 14)) hK.1 hP (by omega) (by omega) rfl hF.self)) rfl rfl hl.1 rfl (lv_room (Nat.le_of_ble_eq_true rfl)) dX7_month_280 ⟨Nat.le_of_ble_eq_true rfl, Nat.le_of_ble_eq_true rfl⟩) hS (fun u19 H locs hX hP hS => ?_)
  obtain ⟨hF9, hf9⟩ := hX
  have hF := hF9
  have hfr := hfr.tr hf9 (by omega) (by omega)
  refine lv_iload_n hx hb dX7_month_283 rfl (lv_at hl 0 rfl) ?_
  refine lv_bipush (v := 12) hx hb dX7_month_284 (by decide) ?_
  refine lv_icmp_ge (tgt := 306) hx hb dX7_month_286 (by decide) (fun h => absurd h (by decide)) (fun _ => ?_)
  refine lv_aload_n hx hb dX7_month_289 rfl (lv_at hl 4 rfl) ?_
  refine x_get (ref := RX7) (C := RX7) (T := TX7) (N := 14) (ci := 7) (v := .ref (f + 4)) hx hb hts iX7 hown hK.1 hP (by omega) (by omega) hF.self rfl 3 (by decide) (hts (.fieldLink RX7 22 "PoreFieldModel$Field" "south" "[Z") (by decide +kernel)) (fun _ h9 => h9) rfl dX7_month_290 ?_
  refine lv_iload_n hx hb dX7_month_293 rfl (lv_at hl 0 rfl) ?_
  obtain ⟨d22, g22, q22⟩ := hF.south
  refine x_zald hx hb hK.1 hP (by omega) (by omega) 5 g22 rfl (cl_of_nI (i := 8) rfl (by omega)) (vp_in_of_nI (i := 8) rfl (by omega) (by omega)) dX7_month_294 ?_
  refine x_top (v' := (0 : Int32)) (q22 _ (by omega)) ?_
  refine lv_if_ne (tgt := 306) hx hb dX7_month_295 (by decide) (fun h => absurd (by decide) h) (fun _ => ?_)
  refine lv_aload_n hx hb dX7_month_298 rfl (lv_at hl 4 rfl) ?_
  refine lv_iload_n hx hb dX7_month_299 rfl (lv_at hl 0 rfl) ?_
  refine lv_iload_n hx hb dX7_month_300 rfl (lv_at hl 0 rfl) ?_
  refine lv_iconst (v := 4) hx hb dX7_month_301 (by decide) ?_
  refine lv_iadd hx hb dX7_month_302 ?_
  refine x_top (v' := 12) (by decide) ?_
  refine x_callvx (va_runV (As := [.int (8 : Int32), .int (12 : Int32)]) (rest := []) ⟨hx, hb, hml, hown, hts⟩ (c_X7_level l D cy lo n u19 f (by omega) (by omega) (nw + (1 : Int32)) tk hF 8 (by omega) 12 (by omega)) (cwV 2 hts gX7_month_X7_level rfl rfl rfl (by decide +kernel) ⟨Nat.le_of_ble_eq_true rfl, Nat.le_of_ble_eq_true rfl⟩) (preV hP hK (x_recv (ci := 7) (q := (RX7, TX7, 14)) hK.1 hP (by omega) (by omega) rfl hF.self)) rfl rfl hl.1 rfl (lv_room (Nat.le_of_ble_eq_true rfl)) dX7_month_303 ⟨Nat.le_of_ble_eq_true rfl, Nat.le_of_ble_eq_true rfl⟩) hS (fun u20 H locs hX hP hS => ?_)
  obtain ⟨hF9, hf9⟩ := hX
  have hF := hF9
  have hfr := hfr.tr hf9 (by omega) (by omega)
  refine lv_iinc (v := (9 : Int32)) (lv' := [(3, .int (9 : Int32)), (4, .int (0 : Int32)), (2, .int (0 : Int32)), (1, .int (0 : Int32)), (0, .ref f)]) hx hb dX7_month_306 hl (k := 0) rfl (by decide) (by decide) rfl (fun ls hl => ?_)
  refine lv_goto (tgt := 253) hx hb dX7_month_309 (by decide) ?_
  refine lv_iload_n hx hb dX7_month_253 rfl (lv_at hl 0 rfl) ?_
  refine lv_bipush (v := 16) hx hb dX7_month_254 (by decide) ?_
  refine lv_icmp_ge (tgt := 312) hx hb dX7_month_256 (by decide) (fun h => absurd h (by decide)) (fun _ => ?_)
  refine lv_iload_n hx hb dX7_month_259 rfl (lv_at hl 0 rfl) ?_
  refine lv_iconst (v := 4) hx hb dX7_month_260 (by decide) ?_
  refine lv_irem hx hb dX7_month_261 (by decide) ?_
  refine x_top (v' := 1) (by decide) ?_
  refine lv_iconst (v := 3) hx hb dX7_month_262 (by decide) ?_
  refine lv_icmp_ge (tgt := 283) hx hb dX7_month_263 (by decide) (fun h => absurd h (by decide)) (fun _ => ?_)
  refine lv_aload_n hx hb dX7_month_266 rfl (lv_at hl 4 rfl) ?_
  refine x_get (ref := RX7) (C := RX7) (T := TX7) (N := 14) (ci := 7) (v := .ref (f + 3)) hx hb hts iX7 hown hK.1 hP (by omega) (by omega) hF.self rfl 2 (by decide) (hts (.fieldLink RX7 18 "PoreFieldModel$Field" "east" "[Z") (by decide +kernel)) (fun _ h9 => h9) rfl dX7_month_267 ?_
  refine lv_iload_n hx hb dX7_month_270 rfl (lv_at hl 0 rfl) ?_
  obtain ⟨d23, g23, q23⟩ := hF.east
  refine x_zald hx hb hK.1 hP (by omega) (by omega) 5 g23 rfl (cl_of_nI (i := 9) rfl (by omega)) (vp_in_of_nI (i := 9) rfl (by omega) (by omega)) dX7_month_271 ?_
  refine x_top (v' := (0 : Int32)) (q23 _ (by omega)) ?_
  refine lv_if_ne (tgt := 283) hx hb dX7_month_272 (by decide) (fun h => absurd (by decide) h) (fun _ => ?_)
  refine lv_aload_n hx hb dX7_month_275 rfl (lv_at hl 4 rfl) ?_
  refine lv_iload_n hx hb dX7_month_276 rfl (lv_at hl 0 rfl) ?_
  refine lv_iload_n hx hb dX7_month_277 rfl (lv_at hl 0 rfl) ?_
  refine lv_iconst (v := 1) hx hb dX7_month_278 (by decide) ?_
  refine lv_iadd hx hb dX7_month_279 ?_
  refine x_top (v' := 10) (by decide) ?_
  refine x_callvx (va_runV (As := [.int (9 : Int32), .int (10 : Int32)]) (rest := []) ⟨hx, hb, hml, hown, hts⟩ (c_X7_level l D cy lo n u20 f (by omega) (by omega) (nw + (1 : Int32)) tk hF 9 (by omega) 10 (by omega)) (cwV 2 hts gX7_month_X7_level rfl rfl rfl (by decide +kernel) ⟨Nat.le_of_ble_eq_true rfl, Nat.le_of_ble_eq_true rfl⟩) (preV hP hK (x_recv (ci := 7) (q := (RX7, TX7, 14)) hK.1 hP (by omega) (by omega) rfl hF.self)) rfl rfl hl.1 rfl (lv_room (Nat.le_of_ble_eq_true rfl)) dX7_month_280 ⟨Nat.le_of_ble_eq_true rfl, Nat.le_of_ble_eq_true rfl⟩) hS (fun u21 H locs hX hP hS => ?_)
  obtain ⟨hF9, hf9⟩ := hX
  have hF := hF9
  have hfr := hfr.tr hf9 (by omega) (by omega)
  refine lv_iload_n hx hb dX7_month_283 rfl (lv_at hl 0 rfl) ?_
  refine lv_bipush (v := 12) hx hb dX7_month_284 (by decide) ?_
  refine lv_icmp_ge (tgt := 306) hx hb dX7_month_286 (by decide) (fun h => absurd h (by decide)) (fun _ => ?_)
  refine lv_aload_n hx hb dX7_month_289 rfl (lv_at hl 4 rfl) ?_
  refine x_get (ref := RX7) (C := RX7) (T := TX7) (N := 14) (ci := 7) (v := .ref (f + 4)) hx hb hts iX7 hown hK.1 hP (by omega) (by omega) hF.self rfl 3 (by decide) (hts (.fieldLink RX7 22 "PoreFieldModel$Field" "south" "[Z") (by decide +kernel)) (fun _ h9 => h9) rfl dX7_month_290 ?_
  refine lv_iload_n hx hb dX7_month_293 rfl (lv_at hl 0 rfl) ?_
  obtain ⟨d24, g24, q24⟩ := hF.south
  refine x_zald hx hb hK.1 hP (by omega) (by omega) 5 g24 rfl (cl_of_nI (i := 9) rfl (by omega)) (vp_in_of_nI (i := 9) rfl (by omega) (by omega)) dX7_month_294 ?_
  refine x_top (v' := (0 : Int32)) (q24 _ (by omega)) ?_
  refine lv_if_ne (tgt := 306) hx hb dX7_month_295 (by decide) (fun h => absurd (by decide) h) (fun _ => ?_)
  refine lv_aload_n hx hb dX7_month_298 rfl (lv_at hl 4 rfl) ?_
  refine lv_iload_n hx hb dX7_month_299 rfl (lv_at hl 0 rfl) ?_
  refine lv_iload_n hx hb dX7_month_300 rfl (lv_at hl 0 rfl) ?_
  refine lv_iconst (v := 4) hx hb dX7_month_301 (by decide) ?_
  refine lv_iadd hx hb dX7_month_302 ?_
  refine x_top (v' := 13) (by decide) ?_
  refine x_callvx (va_runV (As := [.int (9 : Int32), .int (13 : Int32)]) (rest := []) ⟨hx, hb, hml, hown, hts⟩ (c_X7_level l D cy lo n u21 f (by omega) (by omega) (nw + (1 : Int32)) tk hF 9 (by omega) 13 (by omega)) (cwV 2 hts gX7_month_X7_level rfl rfl rfl (by decide +kernel) ⟨Nat.le_of_ble_eq_true rfl, Nat.le_of_ble_eq_true rfl⟩) (preV hP hK (x_recv (ci := 7) (q := (RX7, TX7, 14)) hK.1 hP (by omega) (by omega) rfl hF.self)) rfl rfl hl.1 rfl (lv_room (Nat.le_of_ble_eq_true rfl)) dX7_month_303 ⟨Nat.le_of_ble_eq_true rfl, Nat.le_of_ble_eq_true rfl⟩) hS (fun u22 H locs hX hP hS => ?_)
  obtain ⟨hF9, hf9⟩ := hX
  have hF := hF9
  have hfr := hfr.tr hf9 (by omega) (by omega)
  refine lv_iinc (v := (10 : Int32)) (lv' := [(3, .int (10 : Int32)), (4, .int (0 : Int32)), (2, .int (0 : Int32)), (1, .int (0 : Int32)), (0, .ref f)]) hx hb dX7_month_306 hl (k := 0) rfl (by decide) (by decide) rfl (fun ls hl => ?_)
  refine lv_goto (tgt := 253) hx hb dX7_month_309 (by decide) ?_
  refine lv_iload_n hx hb dX7_month_253 rfl (lv_at hl 0 rfl) ?_
  refine lv_bipush (v := 16) hx hb dX7_month_254 (by decide) ?_
  refine lv_icmp_ge (tgt := 312) hx hb dX7_month_256 (by decide) (fun h => absurd h (by decide)) (fun _ => ?_)
  refine lv_iload_n hx hb dX7_month_259 rfl (lv_at hl 0 rfl) ?_
  refine lv_iconst (v := 4) hx hb dX7_month_260 (by decide) ?_
  refine lv_irem hx hb dX7_month_261 (by decide) ?_
  refine x_top (v' := 2) (by decide) ?_
  refine lv_iconst (v := 3) hx hb dX7_month_262 (by decide) ?_
  refine lv_icmp_ge (tgt := 283) hx hb dX7_month_263 (by decide) (fun h => absurd h (by decide)) (fun _ => ?_)
  refine lv_aload_n hx hb dX7_month_266 rfl (lv_at hl 4 rfl) ?_
  refine x_get (ref := RX7) (C := RX7) (T := TX7) (N := 14) (ci := 7) (v := .ref (f + 3)) hx hb hts iX7 hown hK.1 hP (by omega) (by omega) hF.self rfl 2 (by decide) (hts (.fieldLink RX7 18 "PoreFieldModel$Field" "east" "[Z") (by decide +kernel)) (fun _ h9 => h9) rfl dX7_month_267 ?_
  refine lv_iload_n hx hb dX7_month_270 rfl (lv_at hl 0 rfl) ?_
  obtain ⟨d25, g25, q25⟩ := hF.east
  refine x_zald hx hb hK.1 hP (by omega) (by omega) 5 g25 rfl (cl_of_nI (i := 10) rfl (by omega)) (vp_in_of_nI (i := 10) rfl (by omega) (by omega)) dX7_month_271 ?_
  refine x_top (v' := (0 : Int32)) (q25 _ (by omega)) ?_
  refine lv_if_ne (tgt := 283) hx hb dX7_month_272 (by decide) (fun h => absurd (by decide) h) (fun _ => ?_)
  refine lv_aload_n hx hb dX7_month_275 rfl (lv_at hl 4 rfl) ?_
  refine lv_iload_n hx hb dX7_month_276 rfl (lv_at hl 0 rfl) ?_
  refine lv_iload_n hx hb dX7_month_277 rfl (lv_at hl 0 rfl) ?_
  refine lv_iconst (v := 1) hx hb dX7_month_278 (by decide) ?_
  refine lv_iadd hx hb dX7_month_279 ?_
  refine x_top (v' := 11) (by decide) ?_
  refine x_callvx (va_runV (As := [.int (10 : Int32), .int (11 : Int32)]) (rest := []) ⟨hx, hb, hml, hown, hts⟩ (c_X7_level l D cy lo n u22 f (by omega) (by omega) (nw + (1 : Int32)) tk hF 10 (by omega) 11 (by omega)) (cwV 2 hts gX7_month_X7_level rfl rfl rfl (by decide +kernel) ⟨Nat.le_of_ble_eq_true rfl, Nat.le_of_ble_eq_true rfl⟩) (preV hP hK (x_recv (ci := 7) (q := (RX7, TX7, 14)) hK.1 hP (by omega) (by omega) rfl hF.self)) rfl rfl hl.1 rfl (lv_room (Nat.le_of_ble_eq_true rfl)) dX7_month_280 ⟨Nat.le_of_ble_eq_true rfl, Nat.le_of_ble_eq_true rfl⟩) hS (fun u23 H locs hX hP hS => ?_)
  obtain ⟨hF9, hf9⟩ := hX
  have hF := hF9
  have hfr := hfr.tr hf9 (by omega) (by omega)
  refine lv_iload_n hx hb dX7_month_283 rfl (lv_at hl 0 rfl) ?_
  refine lv_bipush (v := 12) hx hb dX7_month_284 (by decide) ?_
  refine lv_icmp_ge (tgt := 306) hx hb dX7_month_286 (by decide) (fun h => absurd h (by decide)) (fun _ => ?_)
  refine lv_aload_n hx hb dX7_month_289 rfl (lv_at hl 4 rfl) ?_
  refine x_get (ref := RX7) (C := RX7) (T := TX7) (N := 14) (ci := 7) (v := .ref (f + 4)) hx hb hts iX7 hown hK.1 hP (by omega) (by omega) hF.self rfl 3 (by decide) (hts (.fieldLink RX7 22 "PoreFieldModel$Field" "south" "[Z") (by decide +kernel)) (fun _ h9 => h9) rfl dX7_month_290 ?_
  refine lv_iload_n hx hb dX7_month_293 rfl (lv_at hl 0 rfl) ?_
  obtain ⟨d26, g26, q26⟩ := hF.south
  refine x_zald hx hb hK.1 hP (by omega) (by omega) 5 g26 rfl (cl_of_nI (i := 10) rfl (by omega)) (vp_in_of_nI (i := 10) rfl (by omega) (by omega)) dX7_month_294 ?_
  refine x_top (v' := (0 : Int32)) (q26 _ (by omega)) ?_
  refine lv_if_ne (tgt := 306) hx hb dX7_month_295 (by decide) (fun h => absurd (by decide) h) (fun _ => ?_)
  refine lv_aload_n hx hb dX7_month_298 rfl (lv_at hl 4 rfl) ?_
  refine lv_iload_n hx hb dX7_month_299 rfl (lv_at hl 0 rfl) ?_
  refine lv_iload_n hx hb dX7_month_300 rfl (lv_at hl 0 rfl) ?_
  refine lv_iconst (v := 4) hx hb dX7_month_301 (by decide) ?_
  refine lv_iadd hx hb dX7_month_302 ?_
  refine x_top (v' := 14) (by decide) ?_
  refine x_callvx (va_runV (As := [.int (10 : Int32), .int (14 : Int32)]) (rest := []) ⟨hx, hb, hml, hown, hts⟩ (c_X7_level l D cy lo n u23 f (by omega) (by omega) (nw + (1 : Int32)) tk hF 10 (by omega) 14 (by omega)) (cwV 2 hts gX7_month_X7_level rfl rfl rfl (by decide +kernel) ⟨Nat.le_of_ble_eq_true rfl, Nat.le_of_ble_eq_true rfl⟩) (preV hP hK (x_recv (ci := 7) (q := (RX7, TX7, 14)) hK.1 hP (by omega) (by omega) rfl hF.self)) rfl rfl hl.1 rfl (lv_room (Nat.le_of_ble_eq_true rfl)) dX7_month_303 ⟨Nat.le_of_ble_eq_true rfl, Nat.le_of_ble_eq_true rfl⟩) hS (fun u24 H locs hX hP hS => ?_)
  obtain ⟨hF9, hf9⟩ := hX
  have hF := hF9
  have hfr := hfr.tr hf9 (by omega) (by omega)
  refine lv_iinc (v := (11 : Int32)) (lv' := [(3, .int (11 : Int32)), (4, .int (0 : Int32)), (2, .int (0 : Int32)), (1, .int (0 : Int32)), (0, .ref f)]) hx hb dX7_month_306 hl (k := 0) rfl (by decide) (by decide) rfl (fun ls hl => ?_)
  refine lv_goto (tgt := 253) hx hb dX7_month_309 (by decide) ?_
  refine lv_iload_n hx hb dX7_month_253 rfl (lv_at hl 0 rfl) ?_
  refine lv_bipush (v := 16) hx hb dX7_month_254 (by decide) ?_
  refine lv_icmp_ge (tgt := 312) hx hb dX7_month_256 (by decide) (fun h => absurd h (by decide)) (fun _ => ?_)
  refine lv_iload_n hx hb dX7_month_259 rfl (lv_at hl 0 rfl) ?_
  refine lv_iconst (v := 4) hx hb dX7_month_260 (by decide) ?_
  refine lv_irem hx hb dX7_month_261 (by decide) ?_
  refine x_top (v' := 3) (by decide) ?_
  refine lv_iconst (v := 3) hx hb dX7_month_262 (by decide) ?_
  refine lv_icmp_ge (tgt := 283) hx hb dX7_month_263 (by decide) (fun _ => ?_) (fun h => absurd (by decide) h)
  refine lv_iload_n hx hb dX7_month_283 rfl (lv_at hl 0 rfl) ?_
  refine lv_bipush (v := 12) hx hb dX7_month_284 (by decide) ?_
  refine lv_icmp_ge (tgt := 306) hx hb dX7_month_286 (by decide) (fun h => absurd h (by decide)) (fun _ => ?_)
  refine lv_aload_n hx hb dX7_month_289 rfl (lv_at hl 4 rfl) ?_
  refine x_get (ref := RX7) (C := RX7) (T := TX7) (N := 14) (ci := 7) (v := .ref (f + 4)) hx hb hts iX7 hown hK.1 hP (by omega) (by omega) hF.self rfl 3 (by decide) (hts (.fieldLink RX7 22 "PoreFieldModel$Field" "south" "[Z") (by decide +kernel)) (fun _ h9 => h9) rfl dX7_month_290 ?_
  refine lv_iload_n hx hb dX7_month_293 rfl (lv_at hl 0 rfl) ?_
  obtain ⟨d27, g27, q27⟩ := hF.south
  refine x_zald hx hb hK.1 hP (by omega) (by omega) 5 g27 rfl (cl_of_nI (i := 11) rfl (by omega)) (vp_in_of_nI (i := 11) rfl (by omega) (by omega)) dX7_month_294 ?_
  refine x_top (v' := (0 : Int32)) (q27 _ (by omega)) ?_
  refine lv_if_ne (tgt := 306) hx hb dX7_month_295 (by decide) (fun h => absurd (by decide) h) (fun _ => ?_)
  refine lv_aload_n hx hb dX7_month_298 rfl (lv_at hl 4 rfl) ?_
  refine lv_iload_n hx hb dX7_month_299 rfl (lv_at hl 0 rfl) ?_
  refine lv_iload_n hx hb dX7_month_300 rfl (lv_at hl 0 rfl) ?_
  refine lv_iconst (v := 4) hx hb dX7_month_301 (by decide) ?_
  refine lv_iadd hx hb dX7_month_302 ?_
  refine x_top (v' := 15) (by decide) ?_
  refine x_callvx (va_runV (As := [.int (11 : Int32), .int (15 : Int32)]) (rest := []) ⟨hx, hb, hml, hown, hts⟩ (c_X7_level l D cy lo n u24 f (by omega) (by omega) (nw + (1 : Int32)) tk hF 11 (by omega) 15 (by omega)) (cwV 2 hts gX7_month_X7_level rfl rfl rfl (by decide +kernel) ⟨Nat.le_of_ble_eq_true rfl, Nat.le_of_ble_eq_true rfl⟩) (preV hP hK (x_recv (ci := 7) (q := (RX7, TX7, 14)) hK.1 hP (by omega) (by omega) rfl hF.self)) rfl rfl hl.1 rfl (lv_room (Nat.le_of_ble_eq_true rfl)) dX7_month_303 ⟨Nat.le_of_ble_eq_true rfl, Nat.le_of_ble_eq_true rfl⟩) hS (fun u25 H locs hX hP hS => ?_)
  obtain ⟨hF9, hf9⟩ := hX
  have hF := hF9
  have hfr := hfr.tr hf9 (by omega) (by omega)
  refine lv_iinc (v := (12 : Int32)) (lv' := [(3, .int (12 : Int32)), (4, .int (0 : Int32)), (2, .int (0 : Int32)), (1, .int (0 : Int32)), (0, .ref f)]) hx hb dX7_month_306 hl (k := 0) rfl (by decide) (by decide) rfl (fun ls hl => ?_)
  refine lv_goto (tgt := 253) hx hb dX7_month_309 (by decide) ?_
  refine lv_iload_n hx hb dX7_month_253 rfl (lv_at hl 0 rfl) ?_
  refine lv_bipush (v := 16) hx hb dX7_month_254 (by decide) ?_
  refine lv_icmp_ge (tgt := 312) hx hb dX7_month_256 (by decide) (fun h => absurd h (by decide)) (fun _ => ?_)
  refine lv_iload_n hx hb dX7_month_259 rfl (lv_at hl 0 rfl) ?_
  refine lv_iconst (v := 4) hx hb dX7_month_260 (by decide) ?_
  refine lv_irem hx hb dX7_month_261 (by decide) ?_
  refine x_top (v' := 0) (by decide) ?_
  refine lv_iconst (v := 3) hx hb dX7_month_262 (by decide) ?_
  refine lv_icmp_ge (tgt := 283) hx hb dX7_month_263 (by decide) (fun h => absurd h (by decide)) (fun _ => ?_)
  refine lv_aload_n hx hb dX7_month_266 rfl (lv_at hl 4 rfl) ?_
  refine x_get (ref := RX7) (C := RX7) (T := TX7) (N := 14) (ci := 7) (v := .ref (f + 3)) hx hb hts iX7 hown hK.1 hP (by omega) (by omega) hF.self rfl 2 (by decide) (hts (.fieldLink RX7 18 "PoreFieldModel$Field" "east" "[Z") (by decide +kernel)) (fun _ h9 => h9) rfl dX7_month_267 ?_
  refine lv_iload_n hx hb dX7_month_270 rfl (lv_at hl 0 rfl) ?_
  obtain ⟨d28, g28, q28⟩ := hF.east
  refine x_zald hx hb hK.1 hP (by omega) (by omega) 5 g28 rfl (cl_of_nI (i := 12) rfl (by omega)) (vp_in_of_nI (i := 12) rfl (by omega) (by omega)) dX7_month_271 ?_
  refine x_top (v' := (0 : Int32)) (q28 _ (by omega)) ?_
  refine lv_if_ne (tgt := 283) hx hb dX7_month_272 (by decide) (fun h => absurd (by decide) h) (fun _ => ?_)
  refine lv_aload_n hx hb dX7_month_275 rfl (lv_at hl 4 rfl) ?_
  refine lv_iload_n hx hb dX7_month_276 rfl (lv_at hl 0 rfl) ?_
  refine lv_iload_n hx hb dX7_month_277 rfl (lv_at hl 0 rfl) ?_
  refine lv_iconst (v := 1) hx hb dX7_month_278 (by decide) ?_
  refine lv_iadd hx hb dX7_month_279 ?_
  refine x_top (v' := 13) (by decide) ?_
  refine x_callvx (va_runV (As := [.int (12 : Int32), .int (13 : Int32)]) (rest := []) ⟨hx, hb, hml, hown, hts⟩ (c_X7_level l D cy lo n u25 f (by omega) (by omega) (nw + (1 : Int32)) tk hF 12 (by omega) 13 (by omega)) (cwV 2 hts gX7_month_X7_level rfl rfl rfl (by decide +kernel) ⟨Nat.le_of_ble_eq_true rfl, Nat.le_of_ble_eq_true rfl⟩) (preV hP hK (x_recv (ci := 7) (q := (RX7, TX7, 14)) hK.1 hP (by omega) (by omega) rfl hF.self)) rfl rfl hl.1 rfl (lv_room (Nat.le_of_ble_eq_true rfl)) dX7_month_280 ⟨Nat.le_of_ble_eq_true rfl, Nat.le_of_ble_eq_true rfl⟩) hS (fun u26 H locs hX hP hS => ?_)
  obtain ⟨hF9, hf9⟩ := hX
  have hF := hF9
  have hfr := hfr.tr hf9 (by omega) (by omega)
  refine lv_iload_n hx hb dX7_month_283 rfl (lv_at hl 0 rfl) ?_
  refine lv_bipush (v := 12) hx hb dX7_month_284 (by decide) ?_
  refine lv_icmp_ge (tgt := 306) hx hb dX7_month_286 (by decide) (fun _ => ?_) (fun h => absurd (by decide) h)
  refine lv_iinc (v := (13 : Int32)) (lv' := [(3, .int (13 : Int32)), (4, .int (0 : Int32)), (2, .int (0 : Int32)), (1, .int (0 : Int32)), (0, .ref f)]) hx hb dX7_month_306 hl (k := 0) rfl (by decide) (by decide) rfl (fun ls hl => ?_)
  refine lv_goto (tgt := 253) hx hb dX7_month_309 (by decide) ?_
  refine lv_iload_n hx hb dX7_month_253 rfl (lv_at hl 0 rfl) ?_
  refine lv_bipush (v := 16) hx hb dX7_month_254 (by decide) ?_
  refine lv_icmp_ge (tgt := 312) hx hb dX7_month_256 (by decide) (fun h => absurd h (by decide)) (fun _ => ?_)
  refine lv_iload_n hx hb dX7_month_259 rfl (lv_at hl 0 rfl) ?_
  refine lv_iconst (v := 4) hx hb dX7_month_260 (by decide) ?_
  refine lv_irem hx hb dX7_month_261 (by decide) ?_
  refine x_top (v' := 1) (by decide) ?_
  refine lv_iconst (v := 3) hx hb dX7_month_262 (by decide) ?_
  refine lv_icmp_ge (tgt := 283) hx hb dX7_month_263 (by decide) (fun h => absurd h (by decide)) (fun _ => ?_)
  refine lv_aload_n hx hb dX7_month_266 rfl (lv_at hl 4 rfl) ?_
  refine x_get (ref := RX7) (C := RX7) (T := TX7) (N := 14) (ci := 7) (v := .ref (f + 3)) hx hb hts iX7 hown hK.1 hP (by omega) (by omega) hF.self rfl 2 (by decide) (hts (.fieldLink RX7 18 "PoreFieldModel$Field" "east" "[Z") (by decide +kernel)) (fun _ h9 => h9) rfl dX7_month_267 ?_
  refine lv_iload_n hx hb dX7_month_270 rfl (lv_at hl 0 rfl) ?_
  obtain ⟨d29, g29, q29⟩ := hF.east
  refine x_zald hx hb hK.1 hP (by omega) (by omega) 5 g29 rfl (cl_of_nI (i := 13) rfl (by omega)) (vp_in_of_nI (i := 13) rfl (by omega) (by omega)) dX7_month_271 ?_
  refine x_top (v' := (0 : Int32)) (q29 _ (by omega)) ?_
  refine lv_if_ne (tgt := 283) hx hb dX7_month_272 (by decide) (fun h => absurd (by decide) h) (fun _ => ?_)
  refine lv_aload_n hx hb dX7_month_275 rfl (lv_at hl 4 rfl) ?_
  refine lv_iload_n hx hb dX7_month_276 rfl (lv_at hl 0 rfl) ?_
  refine lv_iload_n hx hb dX7_month_277 rfl (lv_at hl 0 rfl) ?_
  refine lv_iconst (v := 1) hx hb dX7_month_278 (by decide) ?_
  refine lv_iadd hx hb dX7_month_279 ?_
  refine x_top (v' := 14) (by decide) ?_
  refine x_callvx (va_runV (As := [.int (13 : Int32), .int (14 : Int32)]) (rest := []) ⟨hx, hb, hml, hown, hts⟩ (c_X7_level l D cy lo n u26 f (by omega) (by omega) (nw + (1 : Int32)) tk hF 13 (by omega) 14 (by omega)) (cwV 2 hts gX7_month_X7_level rfl rfl rfl (by decide +kernel) ⟨Nat.le_of_ble_eq_true rfl, Nat.le_of_ble_eq_true rfl⟩) (preV hP hK (x_recv (ci := 7) (q := (RX7, TX7, 14)) hK.1 hP (by omega) (by omega) rfl hF.self)) rfl rfl hl.1 rfl (lv_room (Nat.le_of_ble_eq_true rfl)) dX7_month_280 ⟨Nat.le_of_ble_eq_true rfl, Nat.le_of_ble_eq_true rfl⟩) hS (fun u27 H locs hX hP hS => ?_)
  obtain ⟨hF9, hf9⟩ := hX
  have hF := hF9
  have hfr := hfr.tr hf9 (by omega) (by omega)
  refine lv_iload_n hx hb dX7_month_283 rfl (lv_at hl 0 rfl) ?_
  refine lv_bipush (v := 12) hx hb dX7_month_284 (by decide) ?_
  refine lv_icmp_ge (tgt := 306) hx hb dX7_month_286 (by decide) (fun _ => ?_) (fun h => absurd (by decide) h)
  refine lv_iinc (v := (14 : Int32)) (lv' := [(3, .int (14 : Int32)), (4, .int (0 : Int32)), (2, .int (0 : Int32)), (1, .int (0 : Int32)), (0, .ref f)]) hx hb dX7_month_306 hl (k := 0) rfl (by decide) (by decide) rfl (fun ls hl => ?_)
  refine lv_goto (tgt := 253) hx hb dX7_month_309 (by decide) ?_
  refine lv_iload_n hx hb dX7_month_253 rfl (lv_at hl 0 rfl) ?_
  refine lv_bipush (v := 16) hx hb dX7_month_254 (by decide) ?_
  refine lv_icmp_ge (tgt := 312) hx hb dX7_month_256 (by decide) (fun h => absurd h (by decide)) (fun _ => ?_)
  refine lv_iload_n hx hb dX7_month_259 rfl (lv_at hl 0 rfl) ?_
  refine lv_iconst (v := 4) hx hb dX7_month_260 (by decide) ?_
  refine lv_irem hx hb dX7_month_261 (by decide) ?_
  refine x_top (v' := 2) (by decide) ?_
  refine lv_iconst (v := 3) hx hb dX7_month_262 (by decide) ?_
  refine lv_icmp_ge (tgt := 283) hx hb dX7_month_263 (by decide) (fun h => absurd h (by decide)) (fun _ => ?_)
  refine lv_aload_n hx hb dX7_month_266 rfl (lv_at hl 4 rfl) ?_
  refine x_get (ref := RX7) (C := RX7) (T := TX7) (N := 14) (ci := 7) (v := .ref (f + 3)) hx hb hts iX7 hown hK.1 hP (by omega) (by omega) hF.self rfl 2 (by decide) (hts (.fieldLink RX7 18 "PoreFieldModel$Field" "east" "[Z") (by decide +kernel)) (fun _ h9 => h9) rfl dX7_month_267 ?_
  refine lv_iload_n hx hb dX7_month_270 rfl (lv_at hl 0 rfl) ?_
  obtain ⟨d30, g30, q30⟩ := hF.east
  refine x_zald hx hb hK.1 hP (by omega) (by omega) 5 g30 rfl (cl_of_nI (i := 14) rfl (by omega)) (vp_in_of_nI (i := 14) rfl (by omega) (by omega)) dX7_month_271 ?_
  refine x_top (v' := (0 : Int32)) (q30 _ (by omega)) ?_
  refine lv_if_ne (tgt := 283) hx hb dX7_month_272 (by decide) (fun h => absurd (by decide) h) (fun _ => ?_)
  refine lv_aload_n hx hb dX7_month_275 rfl (lv_at hl 4 rfl) ?_
  refine lv_iload_n hx hb dX7_month_276 rfl (lv_at hl 0 rfl) ?_
  refine lv_iload_n hx hb dX7_month_277 rfl (lv_at hl 0 rfl) ?_
  refine lv_iconst (v := 1) hx hb dX7_month_278 (by decide) ?_
  refine lv_iadd hx hb dX7_month_279 ?_
  refine x_top (v' := 15) (by decide) ?_
  refine x_callvx (va_runV (As := [.int (14 : Int32), .int (15 : Int32)]) (rest := []) ⟨hx, hb, hml, hown, hts⟩ (c_X7_level l D cy lo n u27 f (by omega) (by omega) (nw + (1 : Int32)) tk hF 14 (by omega) 15 (by omega)) (cwV 2 hts gX7_month_X7_level rfl rfl rfl (by decide +kernel) ⟨Nat.le_of_ble_eq_true rfl, Nat.le_of_ble_eq_true rfl⟩) (preV hP hK (x_recv (ci := 7) (q := (RX7, TX7, 14)) hK.1 hP (by omega) (by omega) rfl hF.self)) rfl rfl hl.1 rfl (lv_room (Nat.le_of_ble_eq_true rfl)) dX7_month_280 ⟨Nat.le_of_ble_eq_true rfl, Nat.le_of_ble_eq_true rfl⟩) hS (fun u28 H locs hX hP hS => ?_)
  obtain ⟨hF9, hf9⟩ := hX
  have hF := hF9
  have hfr := hfr.tr hf9 (by omega) (by omega)
  refine lv_iload_n hx hb dX7_month_283 rfl (lv_at hl 0 rfl) ?_
  refine lv_bipush (v := 12) hx hb dX7_month_284 (by decide) ?_
  refine lv_icmp_ge (tgt := 306) hx hb dX7_month_286 (by decide) (fun _ => ?_) (fun h => absurd (by decide) h)
  refine lv_iinc (v := (15 : Int32)) (lv' := [(3, .int (15 : Int32)), (4, .int (0 : Int32)), (2, .int (0 : Int32)), (1, .int (0 : Int32)), (0, .ref f)]) hx hb dX7_month_306 hl (k := 0) rfl (by decide) (by decide) rfl (fun ls hl => ?_)
  refine lv_goto (tgt := 253) hx hb dX7_month_309 (by decide) ?_
  refine lv_iload_n hx hb dX7_month_253 rfl (lv_at hl 0 rfl) ?_
  refine lv_bipush (v := 16) hx hb dX7_month_254 (by decide) ?_
  refine lv_icmp_ge (tgt := 312) hx hb dX7_month_256 (by decide) (fun h => absurd h (by decide)) (fun _ => ?_)
  refine lv_iload_n hx hb dX7_month_259 rfl (lv_at hl 0 rfl) ?_
  refine lv_iconst (v := 4) hx hb dX7_month_260 (by decide) ?_
  refine lv_irem hx hb dX7_month_261 (by decide) ?_
  refine x_top (v' := 3) (by decide) ?_
  refine lv_iconst (v := 3) hx hb dX7_month_262 (by decide) ?_
  refine lv_icmp_ge (tgt := 283) hx hb dX7_month_263 (by decide) (fun _ => ?_) (fun h => absurd (by decide) h)
  refine lv_iload_n hx hb dX7_month_283 rfl (lv_at hl 0 rfl) ?_
  refine lv_bipush (v := 12) hx hb dX7_month_284 (by decide) ?_
  refine lv_icmp_ge (tgt := 306) hx hb dX7_month_286 (by decide) (fun _ => ?_) (fun h => absurd (by decide) h)
  refine lv_iinc (v := (16 : Int32)) (lv' := [(3, .int (16 : Int32)), (4, .int (0 : Int32)), (2, .int (0 : Int32)), (1, .int (0 : Int32)), (0, .ref f)]) hx hb dX7_month_306 hl (k := 0) rfl (by decide) (by decide) rfl (fun ls hl => ?_)
  refine lv_goto (tgt := 253) hx hb dX7_month_309 (by decide) ?_
  refine lv_iload_n hx hb dX7_month_253 rfl (lv_at hl 0 rfl) ?_
  refine lv_bipush (v := 16) hx hb dX7_month_254 (by decide) ?_
  refine lv_icmp_ge (tgt := 312) hx hb dX7_month_256 (by decide) (fun _ => ?_) (fun h => absurd (by decide) h)
  refine lv_aload_n hx hb dX7_month_312 rfl (lv_at hl 4 rfl) ?_
  refine lv_iload_n hx hb dX7_month_313 rfl (lv_at hl 3 rfl) ?_
  refine x_callv (va_runV (As := [.int (0 : Int32)]) (rest := []) ⟨hx, hb, hml, hown, hts⟩ (c_X7_allocate l D cy lo n u28 f (by omega) (by omega) (nw + (1 : Int32)) tk hF) (cwV 1 hts gX7_month_X7_allocate rfl rfl rfl (by decide +kernel) ⟨Nat.le_of_ble_eq_true rfl, Nat.le_of_ble_eq_true rfl⟩) (preV hP hK (x_recv (ci := 7) (q := (RX7, TX7, 14)) hK.1 hP (by omega) (by omega) rfl hF.self)) rfl rfl hl.1 rfl (lv_room (Nat.le_of_ble_eq_true rfl)) dX7_month_314 ⟨Nat.le_of_ble_eq_true rfl, Nat.le_of_ble_eq_true rfl⟩) hS (fun H locs hP hS => ?_)
  refine lv_iload_n hx hb dX7_month_317 rfl (lv_at hl 3 rfl) ?_
  exact W.iret (v := (0 : Int32)) hx hb hr (fun tE ht hW => ⟨⟨(0 : Int32), u28, rfl, ⟨rfl, hF, hfr⟩, x_at ht hP⟩, hS.F ht⟩) hS.2.2 dX7_month_318

set_option maxRecDepth 100000 in
set_option maxHeartbeats 1000000 in
/-- months, where nothing is -/
theorem c_X7_run (l : Launch) (D : va_G) (cy : Nat → ClassId) (lo n : Nat) (w : Nat → va_E) (f : Nat) (h1 : lo ≤ f) (h2 : f + 16 ≤ lo + n) (nw tk : Int32) (hF : FM cy w f nw tk) (N : Nat) (hN : N < 2 ^ 31) : Met l yX7_run wsX7_run ({ frames := 4, cells := 0, slots := 0, locals := 105 }) (PcW D cy lo n w [.ref f, .int (nI N)]) (QxT D lo n (fun r u => r = 0 ∧ (∃ nw9, FM cy u f nw9 tk) ∧ fr f 16 w u)) 0 0 (fun q : Nat => lo ≤ q) := by
  refine Met.ofW (cc := cX7_run) (maxL := 4) (ret := (some .int)) (by decide) rfl ?_
  intro p e s m args below meth c s₁ B hml hv
  obtain ⟨rfl, hP, hK, hS⟩ := x_entry hv
  have hx := B.exec
  have hb := B.bytes
  have hr := B.returns
  have hts := atoms_spec (ws := wsX7_run) B.pre
  have hown : s.vm.findClass RX7 = some m.cls := findClass_of_methodNamed B.named
  have hlocks := B.notSynchronized
  have hl := lv_entry ([.ref f, .int (nI N)]) (n := 4) (Nat.le_of_ble_eq_true rfl)
  rw [lg_entry_eq]
  generalize (lg_sl ([.ref f, .int (nI N)]) ++ List.replicate (4 - (lg_sl ([.ref f, .int (nI N)])).length) Slot.unset).toArray = ls at hl ⊢
  have hl : lv_has ls 4 [(0, .ref f), (1, .int (nI N))] := hl
  have hfr : fr f 16 w w := fr.rf
  refine lv_iconst (v := 0) hx hb dX7_run_0 (by decide) ?_
  refine lv_istore_n (lv' := [(2, .int (0 : Int32)), (0, .ref f), (1, .int (nI N))]) hx hb dX7_run_1 rfl hl (by decide) rfl (fun ls hl => ?_)
  refine lv_iconst (v := 0) hx hb dX7_run_2 (by decide) ?_
  refine lv_istore_n (lv' := [(3, .int (0 : Int32)), (2, .int (0 : Int32)), (0, .ref f), (1, .int (nI N))]) hx hb dX7_run_3 rfl hl (by decide) rfl (fun ls hl => ?_)
  have L1 : ∀ (r k : Nat) (H : Heap) (locs : List Loc) (ls : Array Slot) (vL1 : Nat → va_E), k + r = N → lv_has ls 4 [(3, .int (nI k)), (2, .int (0 : Int32)), (0, .ref f), (1, .int (nI N))] → (∃ nw9, FM cy vL1 f nw9 tk) → fr f 16 w vL1 → va_P D vwCl (rl lo n vL1) H → va_S (fun q : Nat => lo ≤ q) s.heap H locs → W p l e (headSpec wsX7_run ({ frames := 4, cells := 0, slots := 0, locals := 105 })).room s m (([.ref f, .int (nI N)] : List Value).toArray) below meth c H locs 0 0 (MQ below (QxT D lo n (fun r u => r = 0 ∧ (∃ nw9, FM cy u f nw9 tk) ∧ fr f 16 w u)) (([.ref f, .int (nI N)] : List Value).toArray) s 0 0 (fun q : Nat => lo ≤ q)) (F0 m 4 ls []) := by
    intro r
    induction r with
    | zero =>
      intro k H locs ls vL1 hk hl hF hfr hP hS
      obtain ⟨nw9, hF⟩ := hF
      have e9 : k = N := by omega
      subst k
      refine lv_iload_n hx hb dX7_run_4 rfl (lv_at hl 0 rfl) ?_
      refine lv_iload_n hx hb dX7_run_5 rfl (lv_at hl 3 rfl) ?_
      refine lv_icmp_ge (tgt := 22) hx hb dX7_run_6 (by decide) (fun _ => ?_) (fun h => absurd ((br_le (show (nI N) = nI N from rfl) (show (nI N) = nI N from rfl) (by omega) (by omega)).mpr (by omega)) h)
      refine lv_iload_n hx hb dX7_run_22 rfl (lv_at hl 1 rfl) ?_
      exact W.iret (v := (0 : Int32)) hx hb hr (fun tE ht hW => ⟨⟨(0 : Int32), vL1, rfl, ⟨rfl, ⟨nw9, hF⟩, hfr⟩, x_at ht hP⟩, hS.F ht⟩) hS.2.2 dX7_run_23
    | succ r ih =>
      intro k H locs ls vL1 hk hl hF hfr hP hS
      obtain ⟨nw9, hF⟩ := hF
      refine lv_iload_n hx hb dX7_run_4 rfl (lv_at hl 0 rfl) ?_
      refine lv_iload_n hx hb dX7_run_5 rfl (lv_at hl 3 rfl) ?_
      refine lv_icmp_ge (tgt := 22) hx hb dX7_run_6 (by decide) (fun h => absurd h (fun h9 => absurd ((br_le (show (nI N) = nI N from rfl) (show (nI k) = nI k from rfl) (by omega) (by omega)).mp h9) (by omega))) (fun _ => ?_)
      refine lv_iload_n hx hb dX7_run_9 rfl (lv_at hl 1 rfl) ?_
      refine lv_aload_n hx hb dX7_run_10 rfl (lv_at hl 2 rfl) ?_
      refine x_callx (va_runV (As := []) (rest := [.int (0 : Int32)]) ⟨hx, hb, hml, hown, hts⟩ (c_X7_month l D cy lo n vL1 f (by omega) (by omega) nw9 tk hF) (cwV 0 hts gX7_run_X7_month rfl rfl rfl (by decide +kernel) ⟨Nat.le_of_ble_eq_true rfl, Nat.le_of_ble_eq_true rfl⟩) (preV hP hK (x_recv (ci := 7) (q := (RX7, TX7, 14)) hK.1 hP (by omega) (by omega) rfl hF.self)) rfl rfl hl.1 rfl (lv_room (Nat.le_of_ble_eq_true rfl)) dX7_run_11 ⟨Nat.le_of_ble_eq_true rfl, Nat.le_of_ble_eq_true rfl⟩) hS (fun r9 u1 H locs hX hP hS => ?_)
      obtain ⟨rfl, hX⟩ := hX
      obtain ⟨hF9, hf9⟩ := hX
      have hF := hF9
      have hfr := hfr.tr hf9 (by omega) (by omega)
      refine lv_iadd hx hb dX7_run_14 ?_
      refine x_top (v' := 0) (by decide) ?_
      refine lv_istore_n (lv' := [(2, .int (0 : Int32)), (3, .int (nI k)), (0, .ref f), (1, .int (nI N))]) hx hb dX7_run_15 rfl hl (by decide) rfl (fun ls hl => ?_)
      refine lv_iinc (v := (nI (k + 1))) (lv' := [(3, .int (nI (k + 1))), (2, .int (0 : Int32)), (0, .ref f), (1, .int (nI N))]) hx hb dX7_run_16 hl (k := 1) rfl (nI_1 _) (by decide) rfl (fun ls hl => ?_)
      refine lv_goto (tgt := 4) hx hb dX7_run_19 (by decide) ?_
      exact ih (k + 1) _ _ _ _ (by omega) (lv_sub hl [0, 1, 2, 3] rfl) ⟨_, hF⟩ hfr hP hS
  exact L1 N 0 _ _ _ _ (by omega) (lv_sub hl [0, 1, 2, 3] rfl) ⟨_, hF⟩ hfr hP hS
