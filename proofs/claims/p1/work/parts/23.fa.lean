/-! the reckoner's field, method by method -/
set_option maxRecDepth 100000 in
set_option maxHeartbeats 1000000 in
/-- all, at any field -/
theorem c_X7_all (l : Launch) (D : va_G) (cy : Nat → ClassId) (lo n : Nat) (w : Nat → va_E) (f : Nat) (h1 : lo ≤ f) (h2 : f + 16 ≤ lo + n) (wc nw pm tk st : Int32) (hs : w f = F7 f wc nw pm tk st) (d : Nat → Int32) (hd : w (f + 2) = .inl (cy 0, 48, .inl d)) (ce : Nat) (hc : ce < 16) : Met l yX7_all wsX7_all ({ frames := 0, cells := 0, slots := 0, locals := 0 }) (PcW D cy lo n w [.ref f, .int (nI ce)]) (QiW D lo n w (d (3 * ce) + d (3 * ce + 1) + d (3 * ce + 2))) 0 0 (fun q : Nat => lo ≤ q) := by
  refine Met.ofW (cc := cX7_all) (maxL := 2) (ret := (some .int)) (by decide) rfl ?_
  intro p e s m args below meth c s₁ B hml hv
  obtain ⟨rfl, hP, hK, hS⟩ := x_entry hv
  have hx := B.exec
  have hb := B.bytes
  have hr := B.returns
  have hts := atoms_spec (ws := wsX7_all) B.pre
  have hown : s.vm.findClass RX7 = some m.cls := findClass_of_methodNamed B.named
  have hlocks := B.notSynchronized
  have iX7 : ∀ w ∈ u_ws RX7 TX7 14, w ∈ wsX7_all := by decide +kernel
  have hl := lv_entry ([.ref f, .int (nI ce)]) (n := 2) (Nat.le_of_ble_eq_true rfl)
  rw [lg_entry_eq]
  generalize (lg_sl ([.ref f, .int (nI ce)]) ++ List.replicate (2 - (lg_sl ([.ref f, .int (nI ce)])).length) Slot.unset).toArray = ls at hl ⊢
  have hl : lv_has ls 2 [(0, .ref f), (1, .int (nI ce))] := hl
  refine lv_aload_n hx hb dX7_all_0 rfl (lv_at hl 0 rfl) ?_
  refine x_get (ref := RX7) (C := RX7) (T := TX7) (N := 14) (ci := 7) (v := .ref (f + 2)) hx hb hts iX7 hown hK.1 hP (by omega) (by omega) hs rfl 1 (by decide) (hts (.fieldLink RX7 15 "PoreFieldModel$Field" "has" "[I") (by decide +kernel)) (fun _ h9 => h9) rfl dX7_all_1 ?_
  refine lv_iconst (v := 3) hx hb dX7_all_4 (by decide) ?_
  refine lv_iload_n hx hb dX7_all_5 rfl (lv_at hl 1 rfl) ?_
  refine lv_imul hx hb dX7_all_6 ?_
  refine x_top (v' := (nI (3 * ce))) (nI_m3 _) ?_
  refine x_iald hx hb hK.1 hP (by omega) (by omega) 0 hd rfl (cl_of_nI (i := 3 * ce) rfl (by omega)) (vp_in_of_nI (i := 3 * ce) rfl (by omega) (by omega)) dX7_all_7 ?_
  refine lv_aload_n hx hb dX7_all_8 rfl (lv_at hl 0 rfl) ?_
  refine x_get (ref := RX7) (C := RX7) (T := TX7) (N := 14) (ci := 7) (v := .ref (f + 2)) hx hb hts iX7 hown hK.1 hP (by omega) (by omega) hs rfl 1 (by decide) (hts (.fieldLink RX7 15 "PoreFieldModel$Field" "has" "[I") (by decide +kernel)) (fun _ h9 => h9) rfl dX7_all_9 ?_
  refine lv_iconst (v := 3) hx hb dX7_all_12 (by decide) ?_
  refine lv_iload_n hx hb dX7_all_13 rfl (lv_at hl 1 rfl) ?_
  refine lv_imul hx hb dX7_all_14 ?_
  refine x_top (v' := (nI (3 * ce))) (nI_m3 _) ?_
  refine lv_iconst (v := 1) hx hb dX7_all_15 (by decide) ?_
  refine lv_iadd hx hb dX7_all_16 ?_
  refine x_top (v' := (nI (3 * ce + 1))) (nI_add _ _) ?_
  refine x_iald hx hb hK.1 hP (by omega) (by omega) 0 hd rfl (cl_of_nI (i := 3 * ce + 1) rfl (by omega)) (vp_in_of_nI (i := 3 * ce + 1) rfl (by omega) (by omega)) dX7_all_17 ?_
  refine lv_iadd hx hb dX7_all_18 ?_
  refine lv_aload_n hx hb dX7_all_19 rfl (lv_at hl 0 rfl) ?_
  refine x_get (ref := RX7) (C := RX7) (T := TX7) (N := 14) (ci := 7) (v := .ref (f + 2)) hx hb hts iX7 hown hK.1 hP (by omega) (by omega) hs rfl 1 (by decide) (hts (.fieldLink RX7 15 "PoreFieldModel$Field" "has" "[I") (by decide +kernel)) (fun _ h9 => h9) rfl dX7_all_20 ?_
  refine lv_iconst (v := 3) hx hb dX7_all_23 (by decide) ?_
  refine lv_iload_n hx hb dX7_all_24 rfl (lv_at hl 1 rfl) ?_
  refine lv_imul hx hb dX7_all_25 ?_
  refine x_top (v' := (nI (3 * ce))) (nI_m3 _) ?_
  refine lv_iconst (v := 2) hx hb dX7_all_26 (by decide) ?_
  refine lv_iadd hx hb dX7_all_27 ?_
  refine x_top (v' := (nI (3 * ce + 2))) (nI_add _ _) ?_
  refine x_iald hx hb hK.1 hP (by omega) (by omega) 0 hd rfl (cl_of_nI (i := 3 * ce + 2) rfl (by omega)) (vp_in_of_nI (i := 3 * ce + 2) rfl (by omega) (by omega)) dX7_all_28 ?_
  refine lv_iadd hx hb dX7_all_29 ?_
  exact W.iret (v := (((d (3 * ce)) + (d (3 * ce + 1))) + (d (3 * ce + 2)))) hx hb hr (fun tE ht hW => ⟨⟨(((d (3 * ce)) + (d (3 * ce + 1))) + (d (3 * ce + 2))), (), rfl, rfl, x_at ht hP⟩, hS.F ht⟩) hS.2.2 dX7_all_30

set_option maxRecDepth 100000 in
set_option maxHeartbeats 1000000 in
/-- pressure, at any field -/
theorem c_X7_pressure (l : Launch) (D : va_G) (cy : Nat → ClassId) (lo n : Nat) (w : Nat → va_E) (f : Nat) (h1 : lo ≤ f) (h2 : f + 16 ≤ lo + n) (wc nw pm tk st : Int32) (hs : w f = F7 f wc nw pm tk st) (d : Nat → Int32) (hd : w (f + 2) = .inl (cy 0, 48, .inl d)) (r : Nat → Int32) (hrm : w (f + 1) = .inl (cy 0, 16, .inl r)) (ce : Nat) (hc : ce < 16) (hz : ¬ r ce = 0) : Met l yX7_pressure wsX7_pressure ({ frames := 1, cells := 0, slots := 0, locals := 21 }) (PcW D cy lo n w [.ref f, .int (nI ce)]) (QiW D lo n w (100 * (d (3 * ce) + d (3 * ce + 1) + d (3 * ce + 2)) / r ce)) 0 0 (fun q : Nat => lo ≤ q) := by
  refine Met.ofW (cc := cX7_pressure) (maxL := 2) (ret := (some .int)) (by decide) rfl ?_
  intro p e s m args below meth c s₁ B hml hv
  obtain ⟨rfl, hP, hK, hS⟩ := x_entry hv
  have hx := B.exec
  have hb := B.bytes
  have hr := B.returns
  have hts := atoms_spec (ws := wsX7_pressure) B.pre
  have hown : s.vm.findClass RX7 = some m.cls := findClass_of_methodNamed B.named
  have hlocks := B.notSynchronized
  have iX7 : ∀ w ∈ u_ws RX7 TX7 14, w ∈ wsX7_pressure := by decide +kernel
  have hl := lv_entry ([.ref f, .int (nI ce)]) (n := 2) (Nat.le_of_ble_eq_true rfl)
  rw [lg_entry_eq]
  generalize (lg_sl ([.ref f, .int (nI ce)]) ++ List.replicate (2 - (lg_sl ([.ref f, .int (nI ce)])).length) Slot.unset).toArray = ls at hl ⊢
  have hl : lv_has ls 2 [(0, .ref f), (1, .int (nI ce))] := hl
  refine lv_bipush (v := 100) hx hb dX7_pressure_0 (by decide) ?_
  refine lv_aload_n hx hb dX7_pressure_2 rfl (lv_at hl 0 rfl) ?_
  refine lv_iload_n hx hb dX7_pressure_3 rfl (lv_at hl 1 rfl) ?_
  refine x_calli (va_runV (As := [.int (nI ce)]) (rest := [.int (100 : Int32)]) ⟨hx, hb, hml, hown, hts⟩ (c_X7_all l D cy lo n w f h1 h2 wc nw pm tk st hs d hd ce (by omega)) (cwV 1 hts gX7_pressure_X7_all rfl rfl rfl (by decide +kernel) ⟨Nat.le_of_ble_eq_true rfl, Nat.le_of_ble_eq_true rfl⟩) (preV hP hK (x_recv (ci := 7) (q := (RX7, TX7, 14)) hK.1 hP (by omega) (by omega) rfl hs)) rfl rfl hl.1 rfl (lv_room (Nat.le_of_ble_eq_true rfl)) dX7_pressure_4 ⟨Nat.le_of_ble_eq_true rfl, Nat.le_of_ble_eq_true rfl⟩) hS (fun H locs hP hS => ?_)
  refine lv_imul hx hb dX7_pressure_7 ?_
  refine lv_aload_n hx hb dX7_pressure_8 rfl (lv_at hl 0 rfl) ?_
  refine x_get (ref := RX7) (C := RX7) (T := TX7) (N := 14) (ci := 7) (v := .ref (f + 1)) hx hb hts iX7 hown hK.1 hP (by omega) (by omega) hs rfl 0 (by decide) (hts (.fieldLink RX7 9 "PoreFieldModel$Field" "room" "[I") (by decide +kernel)) (fun _ h9 => h9) rfl dX7_pressure_9 ?_
  refine lv_iload_n hx hb dX7_pressure_12 rfl (lv_at hl 1 rfl) ?_
  refine x_iald hx hb hK.1 hP (by omega) (by omega) 0 hrm rfl (cl_of_nI (i := ce) rfl (by omega)) (vp_in_of_nI (i := ce) rfl (by omega) (by omega)) dX7_pressure_13 ?_
  refine lv_idiv hx hb dX7_pressure_14 hz ?_
  exact W.iret (v := (((100 : Int32) * (d (3 * ce) + d (3 * ce + 1) + d (3 * ce + 2))) / (r ce))) hx hb hr (fun tE ht hW => ⟨⟨(((100 : Int32) * (d (3 * ce) + d (3 * ce + 1) + d (3 * ce + 2))) / (r ce)), (), rfl, rfl, x_at ht hP⟩, hS.F ht⟩) hS.2.2 dX7_pressure_15

set_option maxRecDepth 100000 in
set_option maxHeartbeats 1000000 in
/-- reckon, where nothing is -/
theorem c_X7_reckon (l : Launch) (D : va_G) (cy : Nat → ClassId) (lo n : Nat) (w : Nat → va_E) (f : Nat) (h1 : lo ≤ f) (h2 : f + 16 ≤ lo + n) (nw tk : Int32) (hF : FM cy w f nw tk) (ce : Nat) (hc : ce < 16) (x : Int32) : Met l yX7_reckon wsX7_reckon ({ frames := 1, cells := 0, slots := 0, locals := 21 }) (PcW D cy lo n w [.ref f, .int (nI ce), .int x]) (QvX D lo n (fun u => FM cy u f nw tk ∧ fr f 16 w u)) 0 0 (fun q : Nat => lo ≤ q) := by
  refine Met.ofW (cc := cX7_reckon) (maxL := 5) (ret := none) (by decide) rfl ?_
  intro p e s m args below meth c s₁ B hml hv
  obtain ⟨rfl, hP, hK, hS⟩ := x_entry hv
  have hx := B.exec
  have hb := B.bytes
  have hr := B.returns
  have hts := atoms_spec (ws := wsX7_reckon) B.pre
  have hown : s.vm.findClass RX7 = some m.cls := findClass_of_methodNamed B.named
  have hlocks := B.notSynchronized
  have iX7 : ∀ w ∈ u_ws RX7 TX7 14, w ∈ wsX7_reckon := by decide +kernel
  have hl := lv_entry ([.ref f, .int (nI ce), .int x]) (n := 5) (Nat.le_of_ble_eq_true rfl)
  rw [lg_entry_eq]
  generalize (lg_sl ([.ref f, .int (nI ce), .int x]) ++ List.replicate (5 - (lg_sl ([.ref f, .int (nI ce), .int x])).length) Slot.unset).toArray = ls at hl ⊢
  have hl : lv_has ls 5 [(0, .ref f), (1, .int (nI ce)), (2, .int x)] := hl
  have hfr : fr f 16 w w := fr.rf
  refine lv_aload_n hx hb dX7_reckon_0 rfl (lv_at hl 0 rfl) ?_
  refine lv_iload_n hx hb dX7_reckon_1 rfl (lv_at hl 1 rfl) ?_
  obtain ⟨d1, g1, q1⟩ := hF.has
  refine x_calli (va_runV (As := [.int (nI ce)]) (rest := []) ⟨hx, hb, hml, hown, hts⟩ (c_X7_all l D cy lo n w f (by omega) (by omega) 0 nw 10 tk 0 hF.self d1 g1 ce (by omega)) (cwV 1 hts gX7_reckon_X7_all rfl rfl rfl (by decide +kernel) ⟨Nat.le_of_ble_eq_true rfl, Nat.le_of_ble_eq_true rfl⟩) (preV hP hK (x_recv (ci := 7) (q := (RX7, TX7, 14)) hK.1 hP (by omega) (by omega) rfl hF.self)) rfl rfl hl.1 rfl (lv_room (Nat.le_of_ble_eq_true rfl)) dX7_reckon_2 ⟨Nat.le_of_ble_eq_true rfl, Nat.le_of_ble_eq_true rfl⟩) hS (fun H locs hP hS => ?_)
  refine x_top (v' := (0 : Int32)) (by rw [q1 _ (by omega), q1 _ (by omega), q1 _ (by omega)]; decide) ?_
  refine lv_istore_n (lv' := [(3, .int (0 : Int32)), (0, .ref f), (1, .int (nI ce)), (2, .int x)]) hx hb dX7_reckon_5 rfl hl (by decide) rfl (fun ls hl => ?_)
  refine lv_iconst (v := 0) hx hb dX7_reckon_6 (by decide) ?_
  refine lv_istore (lv' := [(4, .int (0 : Int32)), (3, .int (0 : Int32)), (0, .ref f), (1, .int (nI ce)), (2, .int x)]) hx hb dX7_reckon_7 hl (by decide) rfl (fun ls hl => ?_)
  refine lv_iload hx hb dX7_reckon_9 (lv_at hl 0 rfl) ?_
  refine lv_iconst (v := 3) hx hb dX7_reckon_11 (by decide) ?_
  refine lv_icmp_ge (tgt := 77) hx hb dX7_reckon_12 (by decide) (fun h => absurd h (by decide)) (fun _ => ?_)
  refine lv_aload_n hx hb dX7_reckon_15 rfl (lv_at hl 2 rfl) ?_
  refine x_get (ref := RX7) (C := RX7) (T := TX7) (N := 14) (ci := 7) (v := .ref (f + 14)) hx hb hts iX7 hown hK.1 hP (by omega) (by omega) hF.self rfl 7 (by decide) (hts (.fieldLink RX7 36 "PoreFieldModel$Field" "goes" "[I") (by decide +kernel)) (fun _ h9 => h9) rfl dX7_reckon_16 ?_
  refine lv_iload hx hb dX7_reckon_19 (lv_at hl 0 rfl) ?_
  refine lv_iload_n hx hb dX7_reckon_21 rfl (lv_at hl 1 rfl) ?_
  refine lv_if_ne (tgt := 29) hx hb dX7_reckon_22 (by decide) (fun h => absurd (by decide) h) (fun _ => ?_)
  refine lv_iconst (v := 0) hx hb dX7_reckon_25 (by decide) ?_
  refine lv_goto (tgt := 70) hx hb dX7_reckon_26 (by decide) ?_
  obtain ⟨d2, g2, q2⟩ := hF.goes
  refine x_iast hx hb hK.1 hP hS (by omega) (by omega) 0 g2 rfl (cl_of_nI (i := 0) rfl (by omega)) (vp_in_of_nI (i := 0) rfl (by omega) (by omega)) dX7_reckon_70 (fun H locs hP hS => ?_)
  refine x_gen hP (fun v1 e1 hP => ?_)
  have hF : FM cy v1 f nw tk := by rw [e1]; exact hF.up_goes (upd_uni rfl q2)
  have hfr : fr f 16 w v1 := by rw [e1]; exact hfr.up (by omega) (by omega)
  refine lv_iinc (v := (1 : Int32)) (lv' := [(4, .int (1 : Int32)), (3, .int (0 : Int32)), (0, .ref f), (1, .int (nI ce)), (2, .int x)]) hx hb dX7_reckon_71 hl (k := 0) rfl (by decide) (by decide) rfl (fun ls hl => ?_)
  refine lv_goto (tgt := 9) hx hb dX7_reckon_74 (by decide) ?_
  refine lv_iload hx hb dX7_reckon_9 (lv_at hl 0 rfl) ?_
  refine lv_iconst (v := 3) hx hb dX7_reckon_11 (by decide) ?_
  refine lv_icmp_ge (tgt := 77) hx hb dX7_reckon_12 (by decide) (fun h => absurd h (by decide)) (fun _ => ?_)
  refine lv_aload_n hx hb dX7_reckon_15 rfl (lv_at hl 2 rfl) ?_
  refine x_get (ref := RX7) (C := RX7) (T := TX7) (N := 14) (ci := 7) (v := .ref (f + 14)) hx hb hts iX7 hown hK.1 hP (by omega) (by omega) hF.self rfl 7 (by decide) (hts (.fieldLink RX7 36 "PoreFieldModel$Field" "goes" "[I") (by decide +kernel)) (fun _ h9 => h9) rfl dX7_reckon_16 ?_
  refine lv_iload hx hb dX7_reckon_19 (lv_at hl 0 rfl) ?_
  refine lv_iload_n hx hb dX7_reckon_21 rfl (lv_at hl 1 rfl) ?_
  refine lv_if_ne (tgt := 29) hx hb dX7_reckon_22 (by decide) (fun h => absurd (by decide) h) (fun _ => ?_)
  refine lv_iconst (v := 0) hx hb dX7_reckon_25 (by decide) ?_
  refine lv_goto (tgt := 70) hx hb dX7_reckon_26 (by decide) ?_
  obtain ⟨d3, g3, q3⟩ := hF.goes
  refine x_iast hx hb hK.1 hP hS (by omega) (by omega) 0 g3 rfl (cl_of_nI (i := 1) rfl (by omega)) (vp_in_of_nI (i := 1) rfl (by omega) (by omega)) dX7_reckon_70 (fun H locs hP hS => ?_)
  refine x_gen hP (fun v2 e2 hP => ?_)
  have hF : FM cy v2 f nw tk := by rw [e2]; exact hF.up_goes (upd_uni rfl q3)
  have hfr : fr f 16 w v2 := by rw [e2]; exact hfr.up (by omega) (by omega)
  refine lv_iinc (v := (2 : Int32)) (lv' := [(4, .int (2 : Int32)), (3, .int (0 : Int32)), (0, .ref f), (1, .int (nI ce)), (2, .int x)]) hx hb dX7_reckon_71 hl (k := 0) rfl (by decide) (by decide) rfl (fun ls hl => ?_)
  refine lv_goto (tgt := 9) hx hb dX7_reckon_74 (by decide) ?_
  refine lv_iload hx hb dX7_reckon_9 (lv_at hl 0 rfl) ?_
  refine lv_iconst (v := 3) hx hb dX7_reckon_11 (by decide) ?_
  refine lv_icmp_ge (tgt := 77) hx hb dX7_reckon_12 (by decide) (fun h => absurd h (by decide)) (fun _ => ?_)
  refine lv_aload_n hx hb dX7_reckon_15 rfl (lv_at hl 2 rfl) ?_
  refine x_get (ref := RX7) (C := RX7) (T := TX7) (N := 14) (ci := 7) (v := .ref (f + 14)) hx hb hts iX7 hown hK.1 hP (by omega) (by omega) hF.self rfl 7 (by decide) (hts (.fieldLink RX7 36 "PoreFieldModel$Field" "goes" "[I") (by decide +kernel)) (fun _ h9 => h9) rfl dX7_reckon_16 ?_
  refine lv_iload hx hb dX7_reckon_19 (lv_at hl 0 rfl) ?_
  refine lv_iload_n hx hb dX7_reckon_21 rfl (lv_at hl 1 rfl) ?_
  refine lv_if_ne (tgt := 29) hx hb dX7_reckon_22 (by decide) (fun h => absurd (by decide) h) (fun _ => ?_)
  refine lv_iconst (v := 0) hx hb dX7_reckon_25 (by decide) ?_
  refine lv_goto (tgt := 70) hx hb dX7_reckon_26 (by decide) ?_
  obtain ⟨d4, g4, q4⟩ := hF.goes
  refine x_iast hx hb hK.1 hP hS (by omega) (by omega) 0 g4 rfl (cl_of_nI (i := 2) rfl (by omega)) (vp_in_of_nI (i := 2) rfl (by omega) (by omega)) dX7_reckon_70 (fun H locs hP hS => ?_)
  refine x_gen hP (fun v3 e3 hP => ?_)
  have hF : FM cy v3 f nw tk := by rw [e3]; exact hF.up_goes (upd_uni rfl q4)
  have hfr : fr f 16 w v3 := by rw [e3]; exact hfr.up (by omega) (by omega)
  refine lv_iinc (v := (3 : Int32)) (lv' := [(4, .int (3 : Int32)), (3, .int (0 : Int32)), (0, .ref f), (1, .int (nI ce)), (2, .int x)]) hx hb dX7_reckon_71 hl (k := 0) rfl (by decide) (by decide) rfl (fun ls hl => ?_)
  refine lv_goto (tgt := 9) hx hb dX7_reckon_74 (by decide) ?_
  refine lv_iload hx hb dX7_reckon_9 (lv_at hl 0 rfl) ?_
  refine lv_iconst (v := 3) hx hb dX7_reckon_11 (by decide) ?_
  refine lv_icmp_ge (tgt := 77) hx hb dX7_reckon_12 (by decide) (fun _ => ?_) (fun h => absurd (by decide) h)
  exact W.vret hx hb hr (fun tE ht hW => ⟨⟨v3, rfl, ⟨hF, hfr⟩, x_at ht hP⟩, hS.F ht⟩) hS.2.2 dX7_reckon_77

set_option maxRecDepth 100000 in
set_option maxHeartbeats 1000000 in
/-- out, where nothing goes -/
theorem c_X7_out (l : Launch) (D : va_G) (cy : Nat → ClassId) (lo n : Nat) (w : Nat → va_E) (f : Nat) (h1 : lo ≤ f) (h2 : f + 16 ≤ lo + n) (nw tk : Int32) (hF : FM cy w f nw tk) (ce : Nat) (hc : ce < 16) : Met l yX7_out wsX7_out ({ frames := 0, cells := 0, slots := 0, locals := 0 }) (PcW D cy lo n w [.ref f, .int (nI ce)]) (QvX D lo n (fun u => FM cy u f nw tk ∧ fr f 16 w u)) 0 0 (fun q : Nat => lo ≤ q) := by
  refine Met.ofW (cc := cX7_out) (maxL := 3) (ret := none) (by decide) rfl ?_
  intro p e s m args below meth c s₁ B hml hv
  obtain ⟨rfl, hP, hK, hS⟩ := x_entry hv
  have hx := B.exec
  have hb := B.bytes
  have hr := B.returns
  have hts := atoms_spec (ws := wsX7_out) B.pre
  have hown : s.vm.findClass RX7 = some m.cls := findClass_of_methodNamed B.named
  have hlocks := B.notSynchronized
  have iX7 : ∀ w ∈ u_ws RX7 TX7 14, w ∈ wsX7_out := by decide +kernel
  have hl := lv_entry ([.ref f, .int (nI ce)]) (n := 3) (Nat.le_of_ble_eq_true rfl)
  rw [lg_entry_eq]
  generalize (lg_sl ([.ref f, .int (nI ce)]) ++ List.replicate (3 - (lg_sl ([.ref f, .int (nI ce)])).length) Slot.unset).toArray = ls at hl ⊢
  have hl : lv_has ls 3 [(0, .ref f), (1, .int (nI ce))] := hl
  have hfr : fr f 16 w w := fr.rf
  refine lv_iconst (v := 0) hx hb dX7_out_0 (by decide) ?_
  refine lv_istore_n (lv' := [(2, .int (0 : Int32)), (0, .ref f), (1, .int (nI ce))]) hx hb dX7_out_1 rfl hl (by decide) rfl (fun ls hl => ?_)
  refine lv_iload_n hx hb dX7_out_2 rfl (lv_at hl 0 rfl) ?_
  refine lv_iconst (v := 3) hx hb dX7_out_3 (by decide) ?_
  refine lv_icmp_ge (tgt := 32) hx hb dX7_out_4 (by decide) (fun h => absurd h (by decide)) (fun _ => ?_)
  refine lv_aload_n hx hb dX7_out_7 rfl (lv_at hl 1 rfl) ?_
  refine x_get (ref := RX7) (C := RX7) (T := TX7) (N := 14) (ci := 7) (v := .ref (f + 2)) hx hb hts iX7 hown hK.1 hP (by omega) (by omega) hF.self rfl 1 (by decide) (hts (.fieldLink RX7 15 "PoreFieldModel$Field" "has" "[I") (by decide +kernel)) (fun _ h9 => h9) rfl dX7_out_8 ?_
  refine lv_iconst (v := 3) hx hb dX7_out_11 (by decide) ?_
  refine lv_iload_n hx hb dX7_out_12 rfl (lv_at hl 2 rfl) ?_
  refine lv_imul hx hb dX7_out_13 ?_
  refine x_top (v' := (nI (3 * ce))) (nI_m3 _) ?_
  refine lv_iload_n hx hb dX7_out_14 rfl (lv_at hl 0 rfl) ?_
  refine lv_iadd hx hb dX7_out_15 ?_
  refine x_top (v' := (nI (3 * ce))) (Int32.add_zero _) ?_
  refine lv_dup2_11 hx hb dX7_out_16 rfl rfl ?_
  obtain ⟨d1, g1, q1⟩ := hF.has
  refine x_iald hx hb hK.1 hP (by omega) (by omega) 0 g1 rfl (cl_of_nI (i := 3 * ce) rfl (by omega)) (vp_in_of_nI (i := 3 * ce) rfl (by omega) (by omega)) dX7_out_17 ?_
  refine x_top (v' := (0 : Int32)) (q1 _ (by omega)) ?_
  refine lv_aload_n hx hb dX7_out_18 rfl (lv_at hl 1 rfl) ?_
  refine x_get (ref := RX7) (C := RX7) (T := TX7) (N := 14) (ci := 7) (v := .ref (f + 14)) hx hb hts iX7 hown hK.1 hP (by omega) (by omega) hF.self rfl 7 (by decide) (hts (.fieldLink RX7 36 "PoreFieldModel$Field" "goes" "[I") (by decide +kernel)) (fun _ h9 => h9) rfl dX7_out_19 ?_
  refine lv_iload_n hx hb dX7_out_22 rfl (lv_at hl 0 rfl) ?_
  obtain ⟨d2, g2, q2⟩ := hF.goes
  refine x_iald hx hb hK.1 hP (by omega) (by omega) 0 g2 rfl (cl_of_nI (i := 0) rfl (by omega)) (vp_in_of_nI (i := 0) rfl (by omega) (by omega)) dX7_out_23 ?_
  refine x_top (v' := (0 : Int32)) (q2 _ (by omega)) ?_
  refine lv_isub hx hb dX7_out_24 ?_
  refine x_top (v' := 0) (by decide) ?_
  obtain ⟨d3, g3, q3⟩ := hF.has
  refine x_iast hx hb hK.1 hP hS (by omega) (by omega) 0 g3 rfl (cl_of_nI (i := 3 * ce) rfl (by omega)) (vp_in_of_nI (i := 3 * ce) rfl (by omega) (by omega)) dX7_out_25 (fun H locs hP hS => ?_)
  refine x_gen hP (fun v1 e1 hP => ?_)
  have hF : FM cy v1 f nw tk := by rw [e1]; exact hF.up_has (upd_uni rfl q3)
  have hfr : fr f 16 w v1 := by rw [e1]; exact hfr.up (by omega) (by omega)
  refine lv_iinc (v := (1 : Int32)) (lv' := [(2, .int (1 : Int32)), (0, .ref f), (1, .int (nI ce))]) hx hb dX7_out_26 hl (k := 0) rfl (by decide) (by decide) rfl (fun ls hl => ?_)
  refine lv_goto (tgt := 2) hx hb dX7_out_29 (by decide) ?_
  refine lv_iload_n hx hb dX7_out_2 rfl (lv_at hl 0 rfl) ?_
  refine lv_iconst (v := 3) hx hb dX7_out_3 (by decide) ?_
  refine lv_icmp_ge (tgt := 32) hx hb dX7_out_4 (by decide) (fun h => absurd h (by decide)) (fun _ => ?_)
  refine lv_aload_n hx hb dX7_out_7 rfl (lv_at hl 1 rfl) ?_
  refine x_get (ref := RX7) (C := RX7) (T := TX7) (N := 14) (ci := 7) (v := .ref (f + 2)) hx hb hts iX7 hown hK.1 hP (by omega) (by omega) hF.self rfl 1 (by decide) (hts (.fieldLink RX7 15 "PoreFieldModel$Field" "has" "[I") (by decide +kernel)) (fun _ h9 => h9) rfl dX7_out_8 ?_
  refine lv_iconst (v := 3) hx hb dX7_out_11 (by decide) ?_
  refine lv_iload_n hx hb dX7_out_12 rfl (lv_at hl 2 rfl) ?_
  refine lv_imul hx hb dX7_out_13 ?_
  refine x_top (v' := (nI (3 * ce))) (nI_m3 _) ?_
  refine lv_iload_n hx hb dX7_out_14 rfl (lv_at hl 0 rfl) ?_
  refine lv_iadd hx hb dX7_out_15 ?_
  refine x_top (v' := (nI (3 * ce + 1))) (nI_add _ _) ?_
  refine lv_dup2_11 hx hb dX7_out_16 rfl rfl ?_
  obtain ⟨d4, g4, q4⟩ := hF.has
  refine x_iald hx hb hK.1 hP (by omega) (by omega) 0 g4 rfl (cl_of_nI (i := 3 * ce + 1) rfl (by omega)) (vp_in_of_nI (i := 3 * ce + 1) rfl (by omega) (by omega)) dX7_out_17 ?_
  refine x_top (v' := (0 : Int32)) (q4 _ (by omega)) ?_
  refine lv_aload_n hx hb dX7_out_18 rfl (lv_at hl 1 rfl) ?_
  refine x_get (ref := RX7) (C := RX7) (T := TX7) (N := 14) (ci := 7) (v := .ref (f + 14)) hx hb hts iX7 hown hK.1 hP (by omega) (by omega) hF.self rfl 7 (by decide) (hts (.fieldLink RX7 36 "PoreFieldModel$Field" "goes" "[I") (by decide +kernel)) (fun _ h9 => h9) rfl dX7_out_19 ?_
  refine lv_iload_n hx hb dX7_out_22 rfl (lv_at hl 0 rfl) ?_
  obtain ⟨d5, g5, q5⟩ := hF.goes
  refine x_iald hx hb hK.1 hP (by omega) (by omega) 0 g5 rfl (cl_of_nI (i := 1) rfl (by omega)) (vp_in_of_nI (i := 1) rfl (by omega) (by omega)) dX7_out_23 ?_
  refine x_top (v' := (0 : Int32)) (q5 _ (by omega)) ?_
  refine lv_isub hx hb dX7_out_24 ?_
  refine x_top (v' := 0) (by decide) ?_
  obtain ⟨d6, g6, q6⟩ := hF.has
  refine x_iast hx hb hK.1 hP hS (by omega) (by omega) 0 g6 rfl (cl_of_nI (i := 3 * ce + 1) rfl (by omega)) (vp_in_of_nI (i := 3 * ce + 1) rfl (by omega) (by omega)) dX7_out_25 (fun H locs hP hS => ?_)
  refine x_gen hP (fun v2 e2 hP => ?_)
  have hF : FM cy v2 f nw tk := by rw [e2]; exact hF.up_has (upd_uni rfl q6)
  have hfr : fr f 16 w v2 := by rw [e2]; exact hfr.up (by omega) (by omega)
  refine lv_iinc (v := (2 : Int32)) (lv' := [(2, .int (2 : Int32)), (0, .ref f), (1, .int (nI ce))]) hx hb dX7_out_26 hl (k := 0) rfl (by decide) (by decide) rfl (fun ls hl => ?_)
  refine lv_goto (tgt := 2) hx hb dX7_out_29 (by decide) ?_
  refine lv_iload_n hx hb dX7_out_2 rfl (lv_at hl 0 rfl) ?_
  refine lv_iconst (v := 3) hx hb dX7_out_3 (by decide) ?_
  refine lv_icmp_ge (tgt := 32) hx hb dX7_out_4 (by decide) (fun h => absurd h (by decide)) (fun _ => ?_)
  refine lv_aload_n hx hb dX7_out_7 rfl (lv_at hl 1 rfl) ?_
  refine x_get (ref := RX7) (C := RX7) (T := TX7) (N := 14) (ci := 7) (v := .ref (f + 2)) hx hb hts iX7 hown hK.1 hP (by omega) (by omega) hF.self rfl 1 (by decide) (hts (.fieldLink RX7 15 "PoreFieldModel$Field" "has" "[I") (by decide +kernel)) (fun _ h9 => h9) rfl dX7_out_8 ?_
  refine lv_iconst (v := 3) hx hb dX7_out_11 (by decide) ?_
  refine lv_iload_n hx hb dX7_out_12 rfl (lv_at hl 2 rfl) ?_
  refine lv_imul hx hb dX7_out_13 ?_
  refine x_top (v' := (nI (3 * ce))) (nI_m3 _) ?_
  refine lv_iload_n hx hb dX7_out_14 rfl (lv_at hl 0 rfl) ?_
  refine lv_iadd hx hb dX7_out_15 ?_
  refine x_top (v' := (nI (3 * ce + 2))) (nI_add _ _) ?_
  refine lv_dup2_11 hx hb dX7_out_16 rfl rfl ?_
  obtain ⟨d7, g7, q7⟩ := hF.has
  refine x_iald hx hb hK.1 hP (by omega) (by omega) 0 g7 rfl (cl_of_nI (i := 3 * ce + 2) rfl (by omega)) (vp_in_of_nI (i := 3 * ce + 2) rfl (by omega) (by omega)) dX7_out_17 ?_
  refine x_top (v' := (0 : Int32)) (q7 _ (by omega)) ?_
  refine lv_aload_n hx hb dX7_out_18 rfl (lv_at hl 1 rfl) ?_
  refine x_get (ref := RX7) (C := RX7) (T := TX7) (N := 14) (ci := 7) (v := .ref (f + 14)) hx hb hts iX7 hown hK.1 hP (by omega) (by omega) hF.self rfl 7 (by decide) (hts (.fieldLink RX7 36 "PoreFieldModel$Field" "goes" "[I") (by decide +kernel)) (fun _ h9 => h9) rfl dX7_out_19 ?_
  refine lv_iload_n hx hb dX7_out_22 rfl (lv_at hl 0 rfl) ?_
  obtain ⟨d8, g8, q8⟩ := hF.goes
  refine x_iald hx hb hK.1 hP (by omega) (by omega) 0 g8 rfl (cl_of_nI (i := 2) rfl (by omega)) (vp_in_of_nI (i := 2) rfl (by omega) (by omega)) dX7_out_23 ?_
  refine x_top (v' := (0 : Int32)) (q8 _ (by omega)) ?_
  refine lv_isub hx hb dX7_out_24 ?_
  refine x_top (v' := 0) (by decide) ?_
  obtain ⟨d9, g9, q9⟩ := hF.has
  refine x_iast hx hb hK.1 hP hS (by omega) (by omega) 0 g9 rfl (cl_of_nI (i := 3 * ce + 2) rfl (by omega)) (vp_in_of_nI (i := 3 * ce + 2) rfl (by omega) (by omega)) dX7_out_25 (fun H locs hP hS => ?_)
  refine x_gen hP (fun v3 e3 hP => ?_)
  have hF : FM cy v3 f nw tk := by rw [e3]; exact hF.up_has (upd_uni rfl q9)
  have hfr : fr f 16 w v3 := by rw [e3]; exact hfr.up (by omega) (by omega)
  refine lv_iinc (v := (3 : Int32)) (lv' := [(2, .int (3 : Int32)), (0, .ref f), (1, .int (nI ce))]) hx hb dX7_out_26 hl (k := 0) rfl (by decide) (by decide) rfl (fun ls hl => ?_)
  refine lv_goto (tgt := 2) hx hb dX7_out_29 (by decide) ?_
  refine lv_iload_n hx hb dX7_out_2 rfl (lv_at hl 0 rfl) ?_
  refine lv_iconst (v := 3) hx hb dX7_out_3 (by decide) ?_
  refine lv_icmp_ge (tgt := 32) hx hb dX7_out_4 (by decide) (fun _ => ?_) (fun h => absurd (by decide) h)
  exact W.vret hx hb hr (fun tE ht hW => ⟨⟨v3, rfl, ⟨hF, hfr⟩, x_at ht hP⟩, hS.F ht⟩) hS.2.2 dX7_out_32

set_option maxRecDepth 100000 in
set_option maxHeartbeats 1000000 in
/-- canTake, with no well -/
theorem c_X7_canTake (l : Launch) (D : va_G) (cy : Nat → ClassId) (lo n : Nat) (w : Nat → va_E) (f : Nat) (h1 : lo ≤ f) (h2 : f + 16 ≤ lo + n) (nw tk : Int32) (hF : FM cy w f nw tk) : Met l yX7_canTake wsX7_canTake ({ frames := 0, cells := 0, slots := 0, locals := 0 }) (PcW D cy lo n w [.ref f]) (QiW D lo n w 0) 0 0 (fun q : Nat => lo ≤ q) := by
  refine Met.ofW (cc := cX7_canTake) (maxL := 3) (ret := (some .int)) (by decide) rfl ?_
  intro p e s m args below meth c s₁ B hml hv
  obtain ⟨rfl, hP, hK, hS⟩ := x_entry hv
  have hx := B.exec
  have hb := B.bytes
  have hr := B.returns
  have hts := atoms_spec (ws := wsX7_canTake) B.pre
  have hown : s.vm.findClass RX7 = some m.cls := findClass_of_methodNamed B.named
  have hlocks := B.notSynchronized
  have iX7 : ∀ w ∈ u_ws RX7 TX7 14, w ∈ wsX7_canTake := by decide +kernel
  have hl := lv_entry ([.ref f]) (n := 3) (Nat.le_of_ble_eq_true rfl)
  rw [lg_entry_eq]
  generalize (lg_sl ([.ref f]) ++ List.replicate (3 - (lg_sl ([.ref f])).length) Slot.unset).toArray = ls at hl ⊢
  have hl : lv_has ls 3 [(0, .ref f)] := hl
  refine lv_iconst (v := 0) hx hb dX7_canTake_0 (by decide) ?_
  refine lv_istore_n (lv' := [(1, .int (0 : Int32)), (0, .ref f)]) hx hb dX7_canTake_1 rfl hl (by decide) rfl (fun ls hl => ?_)
  refine lv_iconst (v := 0) hx hb dX7_canTake_2 (by decide) ?_
  refine lv_istore_n (lv' := [(2, .int (0 : Int32)), (1, .int (0 : Int32)), (0, .ref f)]) hx hb dX7_canTake_3 rfl hl (by decide) rfl (fun ls hl => ?_)
  refine lv_iload_n hx hb dX7_canTake_4 rfl (lv_at hl 0 rfl) ?_
  refine lv_aload_n hx hb dX7_canTake_5 rfl (lv_at hl 2 rfl) ?_
  refine x_get (ref := RX7) (C := RX7) (T := TX7) (N := 14) (ci := 7) (v := .int (0 : Int32)) hx hb hts iX7 hown hK.1 hP (by omega) (by omega) hF.self rfl 9 (by decide) (hts (.fieldLink RX7 56 "PoreFieldModel$Field" "wellCount" "I") (by decide +kernel)) (fun _ h9 => h9) rfl dX7_canTake_6 ?_
  refine lv_icmp_ge (tgt := 47) hx hb dX7_canTake_9 (by decide) (fun _ => ?_) (fun h => absurd (by decide) h)
  refine lv_iload_n hx hb dX7_canTake_47 rfl (lv_at hl 1 rfl) ?_
  exact W.iret (v := (0 : Int32)) hx hb hr (fun tE ht hW => ⟨⟨(0 : Int32), (), rfl, rfl, x_at ht hP⟩, hS.F ht⟩) hS.2.2 dX7_canTake_48

set_option maxRecDepth 100000 in
set_option maxHeartbeats 1000000 in
/-- level, where nothing is -/
theorem c_X7_level (l : Launch) (D : va_G) (cy : Nat → ClassId) (lo n : Nat) (w : Nat → va_E) (f : Nat) (h1 : lo ≤ f) (h2 : f + 16 ≤ lo + n) (nw tk : Int32) (hF : FM cy w f nw tk) (ca : Nat) (hca : ca < 16) (cb : Nat) (hcb : cb < 16) : Met l yX7_level wsX7_level ({ frames := 2, cells := 0, slots := 0, locals := 45 }) (PcW D cy lo n w [.ref f, .int (nI ca), .int (nI cb)]) (QvX D lo n (fun u => FM cy u f nw tk ∧ fr f 16 w u)) 0 0 (fun q : Nat => lo ≤ q) := by
  refine Met.ofW (cc := cX7_level) (maxL := 7) (ret := none) (by decide) rfl ?_
  intro p e s m args below meth c s₁ B hml hv
  obtain ⟨rfl, hP, hK, hS⟩ := x_entry hv
  have hx := B.exec
  have hb := B.bytes
  have hr := B.returns
  have hts := atoms_spec (ws := wsX7_level) B.pre
  have hown : s.vm.findClass RX7 = some m.cls := findClass_of_methodNamed B.named
  have hlocks := B.notSynchronized
  have iX7 : ∀ w ∈ u_ws RX7 TX7 14, w ∈ wsX7_level := by decide +kernel
  have hl := lv_entry ([.ref f, .int (nI ca), .int (nI cb)]) (n := 7) (Nat.le_of_ble_eq_true rfl)
  rw [lg_entry_eq]
  generalize (lg_sl ([.ref f, .int (nI ca), .int (nI cb)]) ++ List.replicate (7 - (lg_sl ([.ref f, .int (nI ca), .int (nI cb)])).length) Slot.unset).toArray = ls at hl ⊢
  have hl : lv_has ls 7 [(0, .ref f), (1, .int (nI ca)), (2, .int (nI cb))] := hl
  have hfr : fr f 16 w w := fr.rf
  refine lv_aload_n hx hb dX7_level_0 rfl (lv_at hl 0 rfl) ?_
  refine lv_iload_n hx hb dX7_level_1 rfl (lv_at hl 1 rfl) ?_
  obtain ⟨d1, g1, q1⟩ := hF.has
  obtain ⟨r1, m1, t1⟩ := hF.room
  refine x_calli (va_runV (As := [.int (nI ca)]) (rest := []) ⟨hx, hb, hml, hown, hts⟩ (c_X7_pressure l D cy lo n w f (by omega) (by omega) 0 nw 10 tk 0 hF.self d1 g1 r1 m1 ca (by omega) (by rw [t1 _ (by omega)]; decide)) (cwV 1 hts gX7_level_X7_pressure rfl rfl rfl (by decide +kernel) ⟨Nat.le_of_ble_eq_true rfl, Nat.le_of_ble_eq_true rfl⟩) (preV hP hK (x_recv (ci := 7) (q := (RX7, TX7, 14)) hK.1 hP (by omega) (by omega) rfl hF.self)) rfl rfl hl.1 rfl (lv_room (Nat.le_of_ble_eq_true rfl)) dX7_level_2 ⟨Nat.le_of_ble_eq_true rfl, Nat.le_of_ble_eq_true rfl⟩) hS (fun H locs hP hS => ?_)
  refine x_top (v' := (0 : Int32)) (by rw [q1 _ (by omega), q1 _ (by omega), q1 _ (by omega), t1 _ (by omega)]; decide) ?_
  refine lv_aload_n hx hb dX7_level_5 rfl (lv_at hl 0 rfl) ?_
  refine lv_iload_n hx hb dX7_level_6 rfl (lv_at hl 2 rfl) ?_
  obtain ⟨d2, g2, q2⟩ := hF.has
  obtain ⟨r2, m2, t2⟩ := hF.room
  refine x_calli (va_runV (As := [.int (nI cb)]) (rest := [.int (0 : Int32)]) ⟨hx, hb, hml, hown, hts⟩ (c_X7_pressure l D cy lo n w f (by omega) (by omega) 0 nw 10 tk 0 hF.self d2 g2 r2 m2 cb (by omega) (by rw [t2 _ (by omega)]; decide)) (cwV 1 hts gX7_level_X7_pressure rfl rfl rfl (by decide +kernel) ⟨Nat.le_of_ble_eq_true rfl, Nat.le_of_ble_eq_true rfl⟩) (preV hP hK (x_recv (ci := 7) (q := (RX7, TX7, 14)) hK.1 hP (by omega) (by omega) rfl hF.self)) rfl rfl hl.1 rfl (lv_room (Nat.le_of_ble_eq_true rfl)) dX7_level_7 ⟨Nat.le_of_ble_eq_true rfl, Nat.le_of_ble_eq_true rfl⟩) hS (fun H locs hP hS => ?_)
  refine x_top (v' := (0 : Int32)) (by rw [q2 _ (by omega), q2 _ (by omega), q2 _ (by omega), t2 _ (by omega)]; decide) ?_
  refine lv_isub hx hb dX7_level_10 ?_
  refine x_top (v' := 0) (by decide) ?_
  refine lv_istore_n (lv' := [(3, .int (0 : Int32)), (0, .ref f), (1, .int (nI ca)), (2, .int (nI cb))]) hx hb dX7_level_11 rfl hl (by decide) rfl (fun ls hl => ?_)
  refine lv_iload_n hx hb dX7_level_12 rfl (lv_at hl 0 rfl) ?_
  refine lv_if_le (tgt := 20) hx hb dX7_level_13 (by decide) (fun _ => ?_) (fun h => absurd (by decide) h)
  refine lv_iload_n hx hb dX7_level_20 rfl (lv_at hl 3 rfl) ?_
  refine lv_istore (lv' := [(4, .int (nI cb)), (3, .int (0 : Int32)), (0, .ref f), (1, .int (nI ca)), (2, .int (nI cb))]) hx hb dX7_level_21 hl (by decide) rfl (fun ls hl => ?_)
  refine lv_iload_n hx hb dX7_level_23 rfl (lv_at hl 1 rfl) ?_
  refine lv_if_le (tgt := 31) hx hb dX7_level_24 (by decide) (fun _ => ?_) (fun h => absurd (by decide) h)
  refine lv_iload_n hx hb dX7_level_31 rfl (lv_at hl 3 rfl) ?_
  refine lv_istore (lv' := [(5, .int (nI ca)), (4, .int (nI cb)), (3, .int (0 : Int32)), (0, .ref f), (1, .int (nI ca)), (2, .int (nI cb))]) hx hb dX7_level_32 hl (by decide) rfl (fun ls hl => ?_)
  refine lv_aload_n hx hb dX7_level_34 rfl (lv_at hl 3 rfl) ?_
  refine lv_iload hx hb dX7_level_35 (lv_at hl 1 rfl) ?_
  refine lv_aload_n hx hb dX7_level_37 rfl (lv_at hl 3 rfl) ?_
  refine lv_iload hx hb dX7_level_38 (lv_at hl 1 rfl) ?_
  obtain ⟨d3, g3, q3⟩ := hF.has
  refine x_calli (va_runV (As := [.int (nI cb)]) (rest := [.int (nI cb), .ref f]) ⟨hx, hb, hml, hown, hts⟩ (c_X7_all l D cy lo n w f (by omega) (by omega) 0 nw 10 tk 0 hF.self d3 g3 cb (by omega)) (cwV 1 hts gX7_level_X7_all rfl rfl rfl (by decide +kernel) ⟨Nat.le_of_ble_eq_true rfl, Nat.le_of_ble_eq_true rfl⟩) (preV hP hK (x_recv (ci := 7) (q := (RX7, TX7, 14)) hK.1 hP (by omega) (by omega) rfl hF.self)) rfl rfl hl.1 rfl (lv_room (Nat.le_of_ble_eq_true rfl)) dX7_level_40 ⟨Nat.le_of_ble_eq_true rfl, Nat.le_of_ble_eq_true rfl⟩) hS (fun H locs hP hS => ?_)
  refine x_top (v' := (0 : Int32)) (by rw [q3 _ (by omega), q3 _ (by omega), q3 _ (by omega)]; decide) ?_
  refine lv_iload_n hx hb dX7_level_43 rfl (lv_at hl 2 rfl) ?_
  refine va_mabs (own := RX7) hx hb (hml.trans hl.1.symm) hown (hts (.methodLink RX7 114 Lib.Math.abs.name) (by decide +kernel)) (hts (.static Lib.Math.abs.name) (by decide +kernel)) (hts (.initialized "java/lang/Math") (by decide +kernel)) (hts (.code Lib.Math.abs.name Lib.Math.abs.code 1 (some .int)) (by decide +kernel)) (Nat.le_of_ble_eq_true rfl) (Nat.le_of_ble_eq_true rfl) (Nat.zero_le _) (Nat.zero_le _) dX7_level_44 ?_
  refine x_top (v' := 0) (by decide) ?_
  refine lv_bipush (v := 20) hx hb dX7_level_47 (by decide) ?_
  refine lv_idiv hx hb dX7_level_49 (by decide) ?_
  refine x_top (v' := 0) (by decide) ?_
  refine va_mmin (own := RX7) hx hb (hml.trans hl.1.symm) hown (hts (.methodLink RX7 69 Lib.Math.min.name) (by decide +kernel)) (hts (.static Lib.Math.min.name) (by decide +kernel)) (hts (.initialized "java/lang/Math") (by decide +kernel)) (hts (.code Lib.Math.min.name Lib.Math.min.code 2 (some .int)) (by decide +kernel)) (Nat.le_of_ble_eq_true rfl) (Nat.le_of_ble_eq_true rfl) (Nat.zero_le _) (Nat.zero_le _) dX7_level_50 ?_
  refine x_top (v' := 0) (by decide) ?_
  refine x_callvx (va_runV (As := [.int (nI cb), .int (0 : Int32)]) (rest := []) ⟨hx, hb, hml, hown, hts⟩ (c_X7_reckon l D cy lo n w f (by omega) (by omega) nw tk hF cb (by omega) (0 : Int32)) (cwV 2 hts gX7_level_X7_reckon rfl rfl rfl (by decide +kernel) ⟨Nat.le_of_ble_eq_true rfl, Nat.le_of_ble_eq_true rfl⟩) (preV hP hK (x_recv (ci := 7) (q := (RX7, TX7, 14)) hK.1 hP (by omega) (by omega) rfl hF.self)) rfl rfl hl.1 rfl (lv_room (Nat.le_of_ble_eq_true rfl)) dX7_level_53 ⟨Nat.le_of_ble_eq_true rfl, Nat.le_of_ble_eq_true rfl⟩) hS (fun u1 H locs hX hP hS => ?_)
  obtain ⟨hF9, hf9⟩ := hX
  have hF := hF9
  have hfr := hfr.tr hf9 (by omega) (by omega)
  refine lv_aload_n hx hb dX7_level_56 rfl (lv_at hl 3 rfl) ?_
  refine lv_iload hx hb dX7_level_57 (lv_at hl 1 rfl) ?_
  refine x_callvx (va_runV (As := [.int (nI cb)]) (rest := []) ⟨hx, hb, hml, hown, hts⟩ (c_X7_out l D cy lo n u1 f (by omega) (by omega) nw tk hF cb (by omega)) (cwV 1 hts gX7_level_X7_out rfl rfl rfl (by decide +kernel) ⟨Nat.le_of_ble_eq_true rfl, Nat.le_of_ble_eq_true rfl⟩) (preV hP hK (x_recv (ci := 7) (q := (RX7, TX7, 14)) hK.1 hP (by omega) (by omega) rfl hF.self)) rfl rfl hl.1 rfl (lv_room (Nat.le_of_ble_eq_true rfl)) dX7_level_59 ⟨Nat.le_of_ble_eq_true rfl, Nat.le_of_ble_eq_true rfl⟩) hS (fun u2 H locs hX hP hS => ?_)
  obtain ⟨hF9, hf9⟩ := hX
  have hF := hF9
  have hfr := hfr.tr hf9 (by omega) (by omega)
  refine lv_iconst (v := 0) hx hb dX7_level_62 (by decide) ?_
  refine lv_istore (lv' := [(6, .int (0 : Int32)), (5, .int (nI ca)), (4, .int (nI cb)), (3, .int (0 : Int32)), (0, .ref f), (1, .int (nI ca)), (2, .int (nI cb))]) hx hb dX7_level_63 hl (by decide) rfl (fun ls hl => ?_)
  refine lv_iload hx hb dX7_level_65 (lv_at hl 0 rfl) ?_
  refine lv_iconst (v := 3) hx hb dX7_level_67 (by decide) ?_
  refine lv_icmp_ge (tgt := 99) hx hb dX7_level_68 (by decide) (fun h => absurd h (by decide)) (fun _ => ?_)
  refine lv_aload_n hx hb dX7_level_71 rfl (lv_at hl 4 rfl) ?_
  refine x_get (ref := RX7) (C := RX7) (T := TX7) (N := 14) (ci := 7) (v := .ref (f + 2)) hx hb hts iX7 hown hK.1 hP (by omega) (by omega) hF.self rfl 1 (by decide) (hts (.fieldLink RX7 15 "PoreFieldModel$Field" "has" "[I") (by decide +kernel)) (fun _ h9 => h9) rfl dX7_level_72 ?_
  refine lv_iconst (v := 3) hx hb dX7_level_75 (by decide) ?_
  refine lv_iload hx hb dX7_level_76 (lv_at hl 1 rfl) ?_
  refine lv_imul hx hb dX7_level_78 ?_
  refine x_top (v' := (nI (3 * ca))) (nI_m3 _) ?_
  refine lv_iload hx hb dX7_level_79 (lv_at hl 0 rfl) ?_
  refine lv_iadd hx hb dX7_level_81 ?_
  refine x_top (v' := (nI (3 * ca))) (Int32.add_zero _) ?_
  refine lv_dup2_11 hx hb dX7_level_82 rfl rfl ?_
  obtain ⟨d4, g4, q4⟩ := hF.has
  refine x_iald hx hb hK.1 hP (by omega) (by omega) 0 g4 rfl (cl_of_nI (i := 3 * ca) rfl (by omega)) (vp_in_of_nI (i := 3 * ca) rfl (by omega) (by omega)) dX7_level_83 ?_
  refine x_top (v' := (0 : Int32)) (q4 _ (by omega)) ?_
  refine lv_aload_n hx hb dX7_level_84 rfl (lv_at hl 4 rfl) ?_
  refine x_get (ref := RX7) (C := RX7) (T := TX7) (N := 14) (ci := 7) (v := .ref (f + 14)) hx hb hts iX7 hown hK.1 hP (by omega) (by omega) hF.self rfl 7 (by decide) (hts (.fieldLink RX7 36 "PoreFieldModel$Field" "goes" "[I") (by decide +kernel)) (fun _ h9 => h9) rfl dX7_level_85 ?_
  refine lv_iload hx hb dX7_level_88 (lv_at hl 0 rfl) ?_
  obtain ⟨d5, g5, q5⟩ := hF.goes
  refine x_iald hx hb hK.1 hP (by omega) (by omega) 0 g5 rfl (cl_of_nI (i := 0) rfl (by omega)) (vp_in_of_nI (i := 0) rfl (by omega) (by omega)) dX7_level_90 ?_
  refine x_top (v' := (0 : Int32)) (q5 _ (by omega)) ?_
  refine lv_iadd hx hb dX7_level_91 ?_
  refine x_top (v' := 0) (by decide) ?_
  obtain ⟨d6, g6, q6⟩ := hF.has
  refine x_iast hx hb hK.1 hP hS (by omega) (by omega) 0 g6 rfl (cl_of_nI (i := 3 * ca) rfl (by omega)) (vp_in_of_nI (i := 3 * ca) rfl (by omega) (by omega)) dX7_level_92 (fun H locs hP hS => ?_)
  refine x_gen hP (fun v3 e3 hP => ?_)
  have hF : FM cy v3 f nw tk := by rw [e3]; exact hF.up_has (upd_uni rfl q6)
  have hfr : fr f 16 w v3 := by rw [e3]; exact hfr.up (by omega) (by omega)
  refine lv_iinc (v := (1 : Int32)) (lv' := [(6, .int (1 : Int32)), (5, .int (nI ca)), (4, .int (nI cb)), (3, .int (0 : Int32)), (0, .ref f), (1, .int (nI ca)), (2, .int (nI cb))]) hx hb dX7_level_93 hl (k := 0) rfl (by decide) (by decide) rfl (fun ls hl => ?_)
  refine lv_goto (tgt := 65) hx hb dX7_level_96 (by decide) ?_
  refine lv_iload hx hb dX7_level_65 (lv_at hl 0 rfl) ?_
  refine lv_iconst (v := 3) hx hb dX7_level_67 (by decide) ?_
  refine lv_icmp_ge (tgt := 99) hx hb dX7_level_68 (by decide) (fun h => absurd h (by decide)) (fun _ => ?_)
  refine lv_aload_n hx hb dX7_level_71 rfl (lv_at hl 4 rfl) ?_
  refine x_get (ref := RX7) (C := RX7) (T := TX7) (N := 14) (ci := 7) (v := .ref (f + 2)) hx hb hts iX7 hown hK.1 hP (by omega) (by omega) hF.self rfl 1 (by decide) (hts (.fieldLink RX7 15 "PoreFieldModel$Field" "has" "[I") (by decide +kernel)) (fun _ h9 => h9) rfl dX7_level_72 ?_
  refine lv_iconst (v := 3) hx hb dX7_level_75 (by decide) ?_
  refine lv_iload hx hb dX7_level_76 (lv_at hl 1 rfl) ?_
  refine lv_imul hx hb dX7_level_78 ?_
  refine x_top (v' := (nI (3 * ca))) (nI_m3 _) ?_
  refine lv_iload hx hb dX7_level_79 (lv_at hl 0 rfl) ?_
  refine lv_iadd hx hb dX7_level_81 ?_
  refine x_top (v' := (nI (3 * ca + 1))) (nI_add _ _) ?_
  refine lv_dup2_11 hx hb dX7_level_82 rfl rfl ?_
  obtain ⟨d7, g7, q7⟩ := hF.has
  refine x_iald hx hb hK.1 hP (by omega) (by omega) 0 g7 rfl (cl_of_nI (i := 3 * ca + 1) rfl (by omega)) (vp_in_of_nI (i := 3 * ca + 1) rfl (by omega) (by omega)) dX7_level_83 ?_
  refine x_top (v' := (0 : Int32)) (q7 _ (by omega)) ?_
  refine lv_aload_n hx hb dX7_level_84 rfl (lv_at hl 4 rfl) ?_
  refine x_get (ref := RX7) (C := RX7) (T := TX7) (N := 14) (ci := 7) (v := .ref (f + 14)) hx hb hts iX7 hown hK.1 hP (by omega) (by omega) hF.self rfl 7 (by decide) (hts (.fieldLink RX7 36 "PoreFieldModel$Field" "goes" "[I") (by decide +kernel)) (fun _ h9 => h9) rfl dX7_level_85 ?_
  refine lv_iload hx hb dX7_level_88 (lv_at hl 0 rfl) ?_
  obtain ⟨d8, g8, q8⟩ := hF.goes
  refine x_iald hx hb hK.1 hP (by omega) (by omega) 0 g8 rfl (cl_of_nI (i := 1) rfl (by omega)) (vp_in_of_nI (i := 1) rfl (by omega) (by omega)) dX7_level_90 ?_
  refine x_top (v' := (0 : Int32)) (q8 _ (by omega)) ?_
  refine lv_iadd hx hb dX7_level_91 ?_
  refine x_top (v' := 0) (by decide) ?_
  obtain ⟨d9, g9, q9⟩ := hF.has
  refine x_iast hx hb hK.1 hP hS (by omega) (by omega) 0 g9 rfl (cl_of_nI (i := 3 * ca + 1) rfl (by omega)) (vp_in_of_nI (i := 3 * ca + 1) rfl (by omega) (by omega)) dX7_level_92 (fun H locs hP hS => ?_)
  refine x_gen hP (fun v4 e4 hP => ?_)
  have hF : FM cy v4 f nw tk := by rw [e4]; exact hF.up_has (upd_uni rfl q9)
  have hfr : fr f 16 w v4 := by rw [e4]; exact hfr.up (by omega) (by omega)
  refine lv_iinc (v := (2 : Int32)) (lv' := [(6, .int (2 : Int32)), (5, .int (nI ca)), (4, .int (nI cb)), (3, .int (0 : Int32)), (0, .ref f), (1, .int (nI ca)), (2, .int (nI cb))]) hx hb dX7_level_93 hl (k := 0) rfl (by decide) (by decide) rfl (fun ls hl => ?_)
  refine lv_goto (tgt := 65) hx hb dX7_level_96 (by decide) ?_
  refine lv_iload hx hb dX7_level_65 (lv_at hl 0 rfl) ?_
  refine lv_iconst (v := 3) hx hb dX7_level_67 (by decide) ?_
  refine lv_icmp_ge (tgt := 99) hx hb dX7_level_68 (by decide) (fun h => absurd h (by decide)) (fun _ => ?_)
  refine lv_aload_n hx hb dX7_level_71 rfl (lv_at hl 4 rfl) ?_
  refine x_get (ref := RX7) (C := RX7) (T := TX7) (N := 14) (ci := 7) (v := .ref (f + 2)) hx hb hts iX7 hown hK.1 hP (by omega) (by omega) hF.self rfl 1 (by decide) (hts (.fieldLink RX7 15 "PoreFieldModel$Field" "has" "[I") (by decide +kernel)) (fun _ h9 => h9) rfl dX7_level_72 ?_
  refine lv_iconst (v := 3) hx hb dX7_level_75 (by decide) ?_
  refine lv_iload hx hb dX7_level_76 (lv_at hl 1 rfl) ?_
  refine lv_imul hx hb dX7_level_78 ?_
  refine x_top (v' := (nI (3 * ca))) (nI_m3 _) ?_
  refine lv_iload hx hb dX7_level_79 (lv_at hl 0 rfl) ?_
  refine lv_iadd hx hb dX7_level_81 ?_
  refine x_top (v' := (nI (3 * ca + 2))) (nI_add _ _) ?_
  refine lv_dup2_11 hx hb dX7_level_82 rfl rfl ?_
  obtain ⟨d10, g10, q10⟩ := hF.has
  refine x_iald hx hb hK.1 hP (by omega) (by omega) 0 g10 rfl (cl_of_nI (i := 3 * ca + 2) rfl (by omega)) (vp_in_of_nI (i := 3 * ca + 2) rfl (by omega) (by omega)) dX7_level_83 ?_
  refine x_top (v' := (0 : Int32)) (q10 _ (by omega)) ?_
  refine lv_aload_n hx hb dX7_level_84 rfl (lv_at hl 4 rfl) ?_
  refine x_get (ref := RX7) (C := RX7) (T := TX7) (N := 14) (ci := 7) (v := .ref (f + 14)) hx hb hts iX7 hown hK.1 hP (by omega) (by omega) hF.self rfl 7 (by decide) (hts (.fieldLink RX7 36 "PoreFieldModel$Field" "goes" "[I") (by decide +kernel)) (fun _ h9 => h9) rfl dX7_level_85 ?_
  refine lv_iload hx hb dX7_level_88 (lv_at hl 0 rfl) ?_
  obtain ⟨d11, g11, q11⟩ := hF.goes
  refine x_iald hx hb hK.1 hP (by omega) (by omega) 0 g11 rfl (cl_of_nI (i := 2) rfl (by omega)) (vp_in_of_nI (i := 2) rfl (by omega) (by omega)) dX7_level_90 ?_
  refine x_top (v' := (0 : Int32)) (q11 _ (by omega)) ?_
  refine lv_iadd hx hb dX7_level_91 ?_
  refine x_top (v' := 0) (by decide) ?_
  obtain ⟨d12, g12, q12⟩ := hF.has
  refine x_iast hx hb hK.1 hP hS (by omega) (by omega) 0 g12 rfl (cl_of_nI (i := 3 * ca + 2) rfl (by omega)) (vp_in_of_nI (i := 3 * ca + 2) rfl (by omega) (by omega)) dX7_level_92 (fun H locs hP hS => ?_)
  refine x_gen hP (fun v5 e5 hP => ?_)
  have hF : FM cy v5 f nw tk := by rw [e5]; exact hF.up_has (upd_uni rfl q12)
  have hfr : fr f 16 w v5 := by rw [e5]; exact hfr.up (by omega) (by omega)
  refine lv_iinc (v := (3 : Int32)) (lv' := [(6, .int (3 : Int32)), (5, .int (nI ca)), (4, .int (nI cb)), (3, .int (0 : Int32)), (0, .ref f), (1, .int (nI ca)), (2, .int (nI cb))]) hx hb dX7_level_93 hl (k := 0) rfl (by decide) (by decide) rfl (fun ls hl => ?_)
  refine lv_goto (tgt := 65) hx hb dX7_level_96 (by decide) ?_
  refine lv_iload hx hb dX7_level_65 (lv_at hl 0 rfl) ?_
  refine lv_iconst (v := 3) hx hb dX7_level_67 (by decide) ?_
  refine lv_icmp_ge (tgt := 99) hx hb dX7_level_68 (by decide) (fun _ => ?_) (fun h => absurd (by decide) h)
  exact W.vret hx hb hr (fun tE ht hW => ⟨⟨v5, rfl, ⟨hF, hfr⟩, x_at ht hP⟩, hS.F ht⟩) hS.2.2 dX7_level_99

set_option maxRecDepth 100000 in
set_option maxHeartbeats 1000000 in
/-- allocate, with no well -/
theorem c_X7_allocate (l : Launch) (D : va_G) (cy : Nat → ClassId) (lo n : Nat) (w : Nat → va_E) (f : Nat) (h1 : lo ≤ f) (h2 : f + 16 ≤ lo + n) (nw tk : Int32) (hF : FM cy w f nw tk) : Met l yX7_allocate wsX7_allocate ({ frames := 0, cells := 0, slots := 0, locals := 0 }) (PcW D cy lo n w [.ref f, .int (0 : Int32)]) (QvW D lo n w) 0 0 (fun q : Nat => lo ≤ q) := by
  refine Met.ofW (cc := cX7_allocate) (maxL := 6) (ret := none) (by decide) rfl ?_
  intro p e s m args below meth c s₁ B hml hv
  obtain ⟨rfl, hP, hK, hS⟩ := x_entry hv
  have hx := B.exec
  have hb := B.bytes
  have hr := B.returns
  have hts := atoms_spec (ws := wsX7_allocate) B.pre
  have hown : s.vm.findClass RX7 = some m.cls := findClass_of_methodNamed B.named
  have hlocks := B.notSynchronized
  have iX7 : ∀ w ∈ u_ws RX7 TX7 14, w ∈ wsX7_allocate := by decide +kernel
  have hl := lv_entry ([.ref f, .int (0 : Int32)]) (n := 6) (Nat.le_of_ble_eq_true rfl)
  rw [lg_entry_eq]
  generalize (lg_sl ([.ref f, .int (0 : Int32)]) ++ List.replicate (6 - (lg_sl ([.ref f, .int (0 : Int32)])).length) Slot.unset).toArray = ls at hl ⊢
  have hl : lv_has ls 6 [(0, .ref f), (1, .int (0 : Int32))] := hl
  refine lv_iconst (v := 0) hx hb dX7_allocate_0 (by decide) ?_
  refine lv_istore_n (lv' := [(2, .int (0 : Int32)), (0, .ref f), (1, .int (0 : Int32))]) hx hb dX7_allocate_1 rfl hl (by decide) rfl (fun ls hl => ?_)
  refine lv_iconst (v := 0) hx hb dX7_allocate_2 (by decide) ?_
  refine lv_istore_n (lv' := [(3, .int (0 : Int32)), (2, .int (0 : Int32)), (0, .ref f), (1, .int (0 : Int32))]) hx hb dX7_allocate_3 rfl hl (by decide) rfl (fun ls hl => ?_)
  refine lv_iload_n hx hb dX7_allocate_4 rfl (lv_at hl 0 rfl) ?_
  refine lv_aload_n hx hb dX7_allocate_5 rfl (lv_at hl 2 rfl) ?_
  refine x_get (ref := RX7) (C := RX7) (T := TX7) (N := 14) (ci := 7) (v := .int (0 : Int32)) hx hb hts iX7 hown hK.1 hP (by omega) (by omega) hF.self rfl 9 (by decide) (hts (.fieldLink RX7 56 "PoreFieldModel$Field" "wellCount" "I") (by decide +kernel)) (fun _ h9 => h9) rfl dX7_allocate_6 ?_
  refine lv_icmp_ge (tgt := 45) hx hb dX7_allocate_9 (by decide) (fun _ => ?_) (fun h => absurd (by decide) h)
  refine lv_iload_n hx hb dX7_allocate_45 rfl (lv_at hl 3 rfl) ?_
  refine lv_istore_n (lv' := [(3, .int (0 : Int32)), (2, .int (0 : Int32)), (0, .ref f), (1, .int (0 : Int32))]) hx hb dX7_allocate_46 rfl hl (by decide) rfl (fun ls hl => ?_)
  refine lv_iconst (v := 0) hx hb dX7_allocate_47 (by decide) ?_
  refine lv_istore (lv' := [(4, .int (0 : Int32)), (3, .int (0 : Int32)), (2, .int (0 : Int32)), (0, .ref f), (1, .int (0 : Int32))]) hx hb dX7_allocate_48 hl (by decide) rfl (fun ls hl => ?_)
  refine lv_iload hx hb dX7_allocate_50 (lv_at hl 0 rfl) ?_
  refine lv_aload_n hx hb dX7_allocate_52 rfl (lv_at hl 3 rfl) ?_
  refine x_get (ref := RX7) (C := RX7) (T := TX7) (N := 14) (ci := 7) (v := .int (0 : Int32)) hx hb hts iX7 hown hK.1 hP (by omega) (by omega) hF.self rfl 9 (by decide) (hts (.fieldLink RX7 56 "PoreFieldModel$Field" "wellCount" "I") (by decide +kernel)) (fun _ h9 => h9) rfl dX7_allocate_53 ?_
  refine lv_icmp_ge (tgt := 120) hx hb dX7_allocate_56 (by decide) (fun _ => ?_) (fun h => absurd (by decide) h)
  refine lv_iload_n hx hb dX7_allocate_120 rfl (lv_at hl 1 rfl) ?_
  refine lv_if_le (tgt := 182) hx hb dX7_allocate_121 (by decide) (fun _ => ?_) (fun h => absurd (by decide) h)
  refine lv_iconst (v := 0) hx hb dX7_allocate_182 (by decide) ?_
  refine lv_istore (lv' := [(4, .int (0 : Int32)), (3, .int (0 : Int32)), (2, .int (0 : Int32)), (0, .ref f), (1, .int (0 : Int32))]) hx hb dX7_allocate_183 hl (by decide) rfl (fun ls hl => ?_)
  refine lv_iload hx hb dX7_allocate_185 (lv_at hl 0 rfl) ?_
  refine lv_aload_n hx hb dX7_allocate_187 rfl (lv_at hl 3 rfl) ?_
  refine x_get (ref := RX7) (C := RX7) (T := TX7) (N := 14) (ci := 7) (v := .int (0 : Int32)) hx hb hts iX7 hown hK.1 hP (by omega) (by omega) hF.self rfl 9 (by decide) (hts (.fieldLink RX7 56 "PoreFieldModel$Field" "wellCount" "I") (by decide +kernel)) (fun _ h9 => h9) rfl dX7_allocate_188 ?_
  refine lv_icmp_ge (tgt := 248) hx hb dX7_allocate_191 (by decide) (fun _ => ?_) (fun h => absurd (by decide) h)
  exact W.vret hx hb hr (fun tE ht hW => ⟨⟨(), rfl, trivial, x_at ht hP⟩, hS.F ht⟩) hS.2.2 dX7_allocate_248
