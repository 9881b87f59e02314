/-! the law's cases -/
set_option maxRecDepth 100000 in
set_option maxHeartbeats 1000000 in
/-- case 18: booked -/
theorem lw_c18 {p : Program} {l : Launch} {e : Env} {s : State} {m : MethodId} {below : List Frame} {meth : Method} {c : Code} {Q : State → Prop} {D : va_G} {cy : Nat → ClassId} {b : Nat} {xs : Nat → Int32} {lo n o q t : Nat} {w : Nat → va_E} (hfl : l.stackTraces = false) (hC : LC D cy p s m c b 6 xs lo) (hI : IV cy w lo n o q t) {H : Heap} {locs : List Loc} {ls : Array Slot} {cells slots : Nat} (hce : s.heap.size + cells = lo + n) (hsl : slots ≤ 2000) (hP : va_P D vwCl (rl lo n w) H) (hS : va_S (fun q : Nat => lo ≤ q) s.heap H locs) (hl : lv_has ls 9 [(0, .ref b), (1, .ref o), (2, .ref q), (3, .ref t), (4, .int (0 : Int32))])
    (kk : ∀ (H : Heap) (locs : List Loc) (ls : Array Slot) (cells slots : Nat), cells ≤ 3000 → slots ≤ 9000 → lv_has ls 9 [(0, .ref b), (4, .int (0 : Int32))] → va_S (fun q : Nat => lo ≤ q) s.heap H locs → W p l e room_1 s m #[Value.ref b] below meth c H locs cells slots Q (F0 m 1794 ls [])) : W p l e room_1 s m #[Value.ref b] below meth c H locs cells slots Q (F0 m 1351 ls []) := by
  obtain ⟨hx, hb, hml, hown, hts, htl, hKI, hXK, hZ, hY, hX, hbs, hlo⟩ := id hC
  have hbl : b < lo := by omega
  have hK : KK D cy s := hKI.1
  obtain ⟨ho, hq, ht, hn, hpw, hM, hB, hF, ht0⟩ := id hI
  refine lv_aload_n hx hb dL_law_1351 rfl (lv_at hl 1 rfl) ?_
  refine lv_aload_n hx hb dL_law_1352 rfl (lv_at hl 0 rfl) ?_
  refine lv_iload hx hb dL_law_1353 (lv_at hl 4 rfl) ?_
  refine lv_iconst (v := 1) hx hb dL_law_1355 (by decide) ?_
  refine lv_iadd hx hb dL_law_1356 ?_
  refine x_sld hx hb hX hbs hbl hS (i := 1) (by decide) (by unfold vp_in; decide) dL_law_1357 ?_
  refine lv_aload_n hx hb dL_law_1358 rfl (lv_at hl 3 rfl) ?_
  have hP1 : va_P D vwCl (rl lo n (pw cy w o G0 G0 P0)) H := by rw [hpw]; exact hP
  refine x_szn (by omega) (by omega) hP (fun hz0 => ?_)
  refine x_callY (vx_runSW (As := [.ref o, .int (xs 1), .ref t]) (rest := []) ⟨hx, hb, hml, hown, hts⟩ (c_L_booked l hfl D cy lo n w o t (by omega) (by omega) (by omega) (by omega) (by omega) _ ht0 (xs 1)) (vx_cwSW 3 hts gL_law_L_booked rfl rfl rfl (by decide +kernel) ⟨Nat.le_of_ble_eq_true rfl, Nat.le_of_ble_eq_true rfl⟩) (preSY hz0 hP1 hK hXK (hZ.kept hS.2.1) hY) rfl rfl hl.1 rfl (lv_room (Nat.le_of_ble_eq_true rfl)) dL_law_1359 ⟨by show _ ≤ 662673; omega, by show _ ≤ 7114216; omega⟩) hS (fun u H locs hf hu hP hzS hS => ?_)
  have hM : MM cy u q 0 5 0 0 0 := hM.ext (fun a ha => hu a (by omega) (by omega))
  have hB : LB cy u q := hB.ext (hu _ (by omega) (by omega))
  have hF : FM cy u (q + 1) 0 300 := hF.ext (fun a h1 h2 => hu a (by omega) (by omega))
  refine lv_istore (lv' := [(5, .int (r_booked (xs 1)).1), (0, .ref b), (1, .ref o), (2, .ref q), (3, .ref t), (4, .int (0 : Int32))]) hx hb dL_law_1362 hl (by decide) rfl (fun ls hl => ?_)
  refine lv_aload_n hx hb dL_law_1364 rfl (lv_at hl 3 rfl) ?_
  refine lv_aload_n hx hb dL_law_1365 rfl (lv_at hl 1 rfl) ?_
  refine lv_iload hx hb dL_law_1366 (lv_at hl 5 rfl) ?_
  refine lv_iconst (v := 1) hx hb dL_law_1368 (by decide) ?_
  refine lv_iadd hx hb dL_law_1369 ?_
  refine x_sld hx hb hX hbs hbl hS (i := 1) (by decide) (by unfold vp_in; decide) dL_law_1370 ?_
  refine x_callx (va_runV (As := [.int (xs 1)]) (rest := []) ⟨hx, hb, hml, hown, hts⟩ (c_X8_booked l D cy lo n u q (by omega) (by omega) 0 hM hB hF (xs 1)) (cwV 1 hts gL_law_X8_booked rfl rfl rfl (by decide +kernel) ⟨Nat.le_of_ble_eq_true rfl, Nat.le_of_ble_eq_true rfl⟩) (preV hP hK (x_recv (ci := 8) (q := (RX8, TX8, 8)) hK.1 hP (by omega) (by omega) rfl hM.self)) rfl rfl hl.1 rfl (lv_room (Nat.le_of_ble_eq_true rfl)) dL_law_1371 ⟨by show _ ≤ 662673; omega, by show _ ≤ 7114216; omega⟩) hS (fun v2 u2 H locs hX2 hP hS => ?_)
  obtain ⟨hth, hans, hu2⟩ := hX2
  obtain ⟨n2, hn2⟩ : ∃ n2, n2 = n := ⟨n, rfl⟩
  rw [← hn2] at hP
  refine lv_istore (lv' := [(6, .int v2), (5, .int (r_booked (xs 1)).1), (0, .ref b), (1, .ref o), (2, .ref q), (3, .ref t), (4, .int (0 : Int32))]) hx hb dL_law_1374 hl (by decide) rfl (fun ls hl => ?_)
  refine lv_aload_n hx hb dL_law_1376 rfl (lv_at hl 4 rfl) ?_
  obtain ⟨fs2, hfs2⟩ := hth
  refine x_calli (va_runV (As := []) (rest := []) ⟨hx, hb, hml, hown, hts⟩ (c_X8_thrown l D cy lo n2 u2 q (by omega) (by omega) _ fs2 hfs2) (cwV 0 hts gL_law_X8_thrown rfl rfl rfl (by decide +kernel) ⟨Nat.le_of_ble_eq_true rfl, Nat.le_of_ble_eq_true rfl⟩) (preV hP hK (x_recv (ci := 8) (q := (RX8, TX8, 8)) hK.1 hP (by omega) (by omega) rfl hfs2)) rfl rfl hl.1 rfl (lv_room (Nat.le_of_ble_eq_true rfl)) dL_law_1377 ⟨by show _ ≤ 662673; omega, by show _ ≤ 7114216; omega⟩) hS (fun H locs hP hS => ?_)
  refine lv_iload hx hb dL_law_1380 (lv_at hl 1 rfl) ?_
  refine lv_icmp_eq (tgt := 1387) hx hb dL_law_1382 (by decide) (fun _ => ?_) (fun h9 => absurd rfl h9)
  refine lv_iload hx hb dL_law_1387 (lv_at hl 1 rfl) ?_
  refine lv_if_ne (tgt := 1404) hx hb dL_law_1389 (by decide) (fun _ => ?_) (fun h0 => ?_)
  · refine lv_goto (tgt := 1794) hx hb dL_law_1404 (by decide) ?_
    exact kk H locs ls _ _ (by omega) (by omega) (lv_sub hl [2, 6] rfl) hS
  · refine lv_aload_n hx hb dL_law_1392 rfl (lv_at hl 5 rfl) ?_
    refine lv_iconst (v := 0) hx hb dL_law_1393 (by decide) ?_
    obtain ⟨f9, hf9, hg9⟩ := hf
    have hut : u2 t = .inl (cy 7, 1, .inr (.inl f9)) := (hu2 t (by omega)).trans hf9
    refine x_lald hx hb hK.1 hP (by omega) (by omega) 7 hut rfl (cl_of_nI (i := 0) rfl (by omega)) (vp_in_of_nI (i := 0) rfl (by omega) (by omega)) dL_law_1394 ?_
    refine lv_iload hx hb dL_law_1395 (lv_at hl 0 rfl) ?_
    refine lv_i2l (v := f9 0) hx hb dL_law_1397 (by rw [hg9 h0, hans h0]) ?_
    refine W.lcmp hx hb dL_law_1398 ?_
    rw [cmp_rf]
    refine lv_if_eq (tgt := 1404) hx hb dL_law_1399 (by decide) (fun _ => ?_) (fun h9 => absurd rfl h9)
    refine lv_goto (tgt := 1794) hx hb dL_law_1404 (by decide) ?_
    exact kk H locs ls _ _ (by omega) (by omega) (lv_sub hl [2, 6] rfl) hS
set_option maxRecDepth 100000 in
set_option maxHeartbeats 1000000 in
/-- case 19: many -/
theorem lw_c19 {p : Program} {l : Launch} {e : Env} {s : State} {m : MethodId} {below : List Frame} {meth : Method} {c : Code} {Q : State → Prop} {D : va_G} {cy : Nat → ClassId} {b : Nat} {xs : Nat → Int32} {lo n o q t : Nat} {w : Nat → va_E} (hfl : l.stackTraces = false) (hC : LC D cy p s m c b 6 xs lo) (hI : IV cy w lo n o q t) {H : Heap} {locs : List Loc} {ls : Array Slot} {cells slots : Nat} (hce : s.heap.size + cells = lo + n) (hsl : slots ≤ 2000) (hP : va_P D vwCl (rl lo n w) H) (hS : va_S (fun q : Nat => lo ≤ q) s.heap H locs) (hl : lv_has ls 9 [(0, .ref b), (1, .ref o), (2, .ref q), (3, .ref t), (4, .int (0 : Int32))])
    (kk : ∀ (H : Heap) (locs : List Loc) (ls : Array Slot) (cells slots : Nat), cells ≤ 3000 → slots ≤ 9000 → lv_has ls 9 [(0, .ref b), (4, .int (0 : Int32))] → va_S (fun q : Nat => lo ≤ q) s.heap H locs → W p l e room_1 s m #[Value.ref b] below meth c H locs cells slots Q (F0 m 1794 ls [])) : W p l e room_1 s m #[Value.ref b] below meth c H locs cells slots Q (F0 m 1407 ls []) := by
  obtain ⟨hx, hb, hml, hown, hts, htl, hKI, hXK, hZ, hY, hX, hbs, hlo⟩ := id hC
  have hbl : b < lo := by omega
  have hK : KK D cy s := hKI.1
  obtain ⟨ho, hq, ht, hn, hpw, hM, hB, hF, ht0⟩ := id hI
  refine lv_aload_n hx hb dL_law_1407 rfl (lv_at hl 1 rfl) ?_
  refine lv_aload_n hx hb dL_law_1408 rfl (lv_at hl 0 rfl) ?_
  refine lv_iload hx hb dL_law_1409 (lv_at hl 4 rfl) ?_
  refine lv_iconst (v := 1) hx hb dL_law_1411 (by decide) ?_
  refine lv_iadd hx hb dL_law_1412 ?_
  refine x_sld hx hb hX hbs hbl hS (i := 1) (by decide) (by unfold vp_in; decide) dL_law_1413 ?_
  refine lv_aload_n hx hb dL_law_1414 rfl (lv_at hl 3 rfl) ?_
  have hP1 : va_P D vwCl (rl lo n (pw cy w o G0 G0 P0)) H := by rw [hpw]; exact hP
  refine x_szn (by omega) (by omega) hP (fun hz0 => ?_)
  refine x_callY (vx_runSW (As := [.ref o, .int (xs 1), .ref t]) (rest := []) ⟨hx, hb, hml, hown, hts⟩ (c_L_many l hfl D cy lo n w o t (by omega) (by omega) (by omega) (by omega) (by omega) _ ht0 (xs 1)) (vx_cwSW 3 hts gL_law_L_many rfl rfl rfl (by decide +kernel) ⟨Nat.le_of_ble_eq_true rfl, Nat.le_of_ble_eq_true rfl⟩) (preSY hz0 hP1 hK hXK (hZ.kept hS.2.1) hY) rfl rfl hl.1 rfl (lv_room (Nat.le_of_ble_eq_true rfl)) dL_law_1415 ⟨by show _ ≤ 662673; omega, by show _ ≤ 7114216; omega⟩) hS (fun u H locs hf hu hP hzS hS => ?_)
  have hM : MM cy u q 0 5 0 0 0 := hM.ext (fun a ha => hu a (by omega) (by omega))
  have hB : LB cy u q := hB.ext (hu _ (by omega) (by omega))
  have hF : FM cy u (q + 1) 0 300 := hF.ext (fun a h1 h2 => hu a (by omega) (by omega))
  refine lv_istore (lv' := [(5, .int (r_many (xs 1)).1), (0, .ref b), (1, .ref o), (2, .ref q), (3, .ref t), (4, .int (0 : Int32))]) hx hb dL_law_1418 hl (by decide) rfl (fun ls hl => ?_)
  refine lv_aload_n hx hb dL_law_1420 rfl (lv_at hl 3 rfl) ?_
  refine lv_aload_n hx hb dL_law_1421 rfl (lv_at hl 1 rfl) ?_
  refine lv_iload hx hb dL_law_1422 (lv_at hl 5 rfl) ?_
  refine lv_iconst (v := 1) hx hb dL_law_1424 (by decide) ?_
  refine lv_iadd hx hb dL_law_1425 ?_
  refine x_sld hx hb hX hbs hbl hS (i := 1) (by decide) (by unfold vp_in; decide) dL_law_1426 ?_
  refine x_callx (va_runV (As := [.int (xs 1)]) (rest := []) ⟨hx, hb, hml, hown, hts⟩ (c_X8_many l D cy lo n u q (by omega) (by omega) 0 hM hB hF (xs 1)) (cwV 1 hts gL_law_X8_many rfl rfl rfl (by decide +kernel) ⟨Nat.le_of_ble_eq_true rfl, Nat.le_of_ble_eq_true rfl⟩) (preV hP hK (x_recv (ci := 8) (q := (RX8, TX8, 8)) hK.1 hP (by omega) (by omega) rfl hM.self)) rfl rfl hl.1 rfl (lv_room (Nat.le_of_ble_eq_true rfl)) dL_law_1427 ⟨by show _ ≤ 662673; omega, by show _ ≤ 7114216; omega⟩) hS (fun v2 u2 H locs hX2 hP hS => ?_)
  obtain ⟨hth, hans, hu2⟩ := hX2
  obtain ⟨n2, hn2⟩ : ∃ n2, n2 = n := ⟨n, rfl⟩
  rw [← hn2] at hP
  refine lv_istore (lv' := [(6, .int v2), (5, .int (r_many (xs 1)).1), (0, .ref b), (1, .ref o), (2, .ref q), (3, .ref t), (4, .int (0 : Int32))]) hx hb dL_law_1430 hl (by decide) rfl (fun ls hl => ?_)
  refine lv_aload_n hx hb dL_law_1432 rfl (lv_at hl 4 rfl) ?_
  obtain ⟨fs2, hfs2⟩ := hth
  refine x_calli (va_runV (As := []) (rest := []) ⟨hx, hb, hml, hown, hts⟩ (c_X8_thrown l D cy lo n2 u2 q (by omega) (by omega) _ fs2 hfs2) (cwV 0 hts gL_law_X8_thrown rfl rfl rfl (by decide +kernel) ⟨Nat.le_of_ble_eq_true rfl, Nat.le_of_ble_eq_true rfl⟩) (preV hP hK (x_recv (ci := 8) (q := (RX8, TX8, 8)) hK.1 hP (by omega) (by omega) rfl hfs2)) rfl rfl hl.1 rfl (lv_room (Nat.le_of_ble_eq_true rfl)) dL_law_1433 ⟨by show _ ≤ 662673; omega, by show _ ≤ 7114216; omega⟩) hS (fun H locs hP hS => ?_)
  refine lv_iload hx hb dL_law_1436 (lv_at hl 1 rfl) ?_
  refine lv_icmp_eq (tgt := 1443) hx hb dL_law_1438 (by decide) (fun _ => ?_) (fun h9 => absurd rfl h9)
  refine lv_iload hx hb dL_law_1443 (lv_at hl 1 rfl) ?_
  refine lv_if_ne (tgt := 1460) hx hb dL_law_1445 (by decide) (fun _ => ?_) (fun h0 => ?_)
  · refine lv_goto (tgt := 1794) hx hb dL_law_1460 (by decide) ?_
    exact kk H locs ls _ _ (by omega) (by omega) (lv_sub hl [2, 6] rfl) hS
  · refine lv_aload_n hx hb dL_law_1448 rfl (lv_at hl 5 rfl) ?_
    refine lv_iconst (v := 0) hx hb dL_law_1449 (by decide) ?_
    obtain ⟨f9, hf9, hg9⟩ := hf
    have hut : u2 t = .inl (cy 7, 1, .inr (.inl f9)) := (hu2 t (by omega)).trans hf9
    refine x_lald hx hb hK.1 hP (by omega) (by omega) 7 hut rfl (cl_of_nI (i := 0) rfl (by omega)) (vp_in_of_nI (i := 0) rfl (by omega) (by omega)) dL_law_1450 ?_
    refine lv_iload hx hb dL_law_1451 (lv_at hl 0 rfl) ?_
    refine lv_i2l (v := f9 0) hx hb dL_law_1453 (by rw [hg9 h0, hans h0]) ?_
    refine W.lcmp hx hb dL_law_1454 ?_
    rw [cmp_rf]
    refine lv_if_eq (tgt := 1460) hx hb dL_law_1455 (by decide) (fun _ => ?_) (fun h9 => absurd rfl h9)
    refine lv_goto (tgt := 1794) hx hb dL_law_1460 (by decide) ?_
    exact kk H locs ls _ _ (by omega) (by omega) (lv_sub hl [2, 6] rfl) hS
set_option maxRecDepth 100000 in
set_option maxHeartbeats 1000000 in
/-- case 20: meanPressure -/
theorem lw_c20 {p : Program} {l : Launch} {e : Env} {s : State} {m : MethodId} {below : List Frame} {meth : Method} {c : Code} {Q : State → Prop} {D : va_G} {cy : Nat → ClassId} {b : Nat} {xs : Nat → Int32} {lo n o q t : Nat} {w : Nat → va_E} (hfl : l.stackTraces = false) (hC : LC D cy p s m c b 6 xs lo) (hI : IV cy w lo n o q t) {H : Heap} {locs : List Loc} {ls : Array Slot} {cells slots : Nat} (hce : s.heap.size + cells = lo + n) (hsl : slots ≤ 2000) (hP : va_P D vwCl (rl lo n w) H) (hS : va_S (fun q : Nat => lo ≤ q) s.heap H locs) (hl : lv_has ls 9 [(0, .ref b), (1, .ref o), (2, .ref q), (3, .ref t), (4, .int (0 : Int32))])
    (kk : ∀ (H : Heap) (locs : List Loc) (ls : Array Slot) (cells slots : Nat), cells ≤ 3000 → slots ≤ 9000 → lv_has ls 9 [(0, .ref b), (4, .int (0 : Int32))] → va_S (fun q : Nat => lo ≤ q) s.heap H locs → W p l e room_1 s m #[Value.ref b] below meth c H locs cells slots Q (F0 m 1794 ls [])) : W p l e room_1 s m #[Value.ref b] below meth c H locs cells slots Q (F0 m 1463 ls []) := by
  obtain ⟨hx, hb, hml, hown, hts, htl, hKI, hXK, hZ, hY, hX, hbs, hlo⟩ := id hC
  have hbl : b < lo := by omega
  have hK : KK D cy s := hKI.1
  obtain ⟨ho, hq, ht, hn, hpw, hM, hB, hF, ht0⟩ := id hI
  refine lv_aload_n hx hb dL_law_1463 rfl (lv_at hl 1 rfl) ?_
  have hP : va_P D vwCl (rl lo n (pw cy w o G0 G0 P0)) H := by rw [hpw]; exact hP
  refine x_calldW (va_runV (As := []) (rest := []) ⟨hx, hb, hml, hown, hts⟩ (c_X6_meanPressure l D cy lo n w o G0 G0 P0 (by omega) (by omega) (fun i hi => room_0 hi) (fun i hi => press_0 hi)) (cwV 0 hts gL_law_X6_meanPressure rfl rfl rfl (by decide +kernel) ⟨Nat.le_of_ble_eq_true rfl, Nat.le_of_ble_eq_true rfl⟩) (preV hP hK (x_recv (ci := 6) (q := (RX6, TX6, 11)) hK.1 hP (by omega) (by omega) rfl pwx_0)) rfl rfl hl.1 rfl (lv_room (Nat.le_of_ble_eq_true rfl)) dL_law_1464 ⟨by show _ ≤ 662673; omega, by show _ ≤ 7114216; omega⟩) hS (fun H locs hP hS => ?_)
  have hP : va_P D vwCl (rl lo n w) H := by rw [← hpw]; exact hP
  refine lv_dstore (lv' := [(5, .double MPV), (0, .ref b), (1, .ref o), (2, .ref q), (3, .ref t), (4, .int (0 : Int32))]) hx hb dL_law_1467 hl (by decide) rfl (fun ls hl => ?_)
  refine lv_aload_n hx hb dL_law_1469 rfl (lv_at hl 3 rfl) ?_
  refine x_calldT (va_runV (As := []) (rest := []) ⟨hx, hb, hml, hown, hts⟩ (c_X8_meanPressure l D cy lo n w q (by omega) (by omega) 0 hM hB hF) (cwV 0 hts gL_law_X8_meanPressure rfl rfl rfl (by decide +kernel) ⟨Nat.le_of_ble_eq_true rfl, Nat.le_of_ble_eq_true rfl⟩) (preV hP hK (x_recv (ci := 8) (q := (RX8, TX8, 8)) hK.1 hP (by omega) (by omega) rfl hM.self)) rfl rfl hl.1 rfl (lv_room (Nat.le_of_ble_eq_true rfl)) dL_law_1470 ⟨by show _ ≤ 662673; omega, by show _ ≤ 7114216; omega⟩) hS (fun v2 u2 H locs hX2 hP hS => ?_)
  obtain ⟨rfl, -, -⟩ := hX2
  refine lv_dstore (lv' := [(7, .double MPV), (5, .double MPV), (0, .ref b), (1, .ref o), (2, .ref q), (3, .ref t), (4, .int (0 : Int32))]) hx hb dL_law_1473 hl (by decide) rfl (fun ls hl => ?_)
  refine lv_dload hx hb dL_law_1475 (lv_at hl 1 rfl) ?_
  refine lv_dload hx hb dL_law_1477 (lv_at hl 0 rfl) ?_
  refine lv_dcmp hx hb dL_law_1479 ?_
  rw [mpv_c]
  refine lv_if_eq (tgt := 1501) hx hb dL_law_1480 (by decide) (fun _ => ?_) (fun h9 => absurd rfl h9)
  refine lv_goto (tgt := 1794) hx hb dL_law_1501 (by decide) ?_
  exact kk H locs ls _ _ (by omega) (by omega) (lv_sub hl [2, 6] rfl) hS
set_option maxRecDepth 100000 in
set_option maxHeartbeats 1000000 in
/-- case 21: wouldGive -/
theorem lw_c21 {p : Program} {l : Launch} {e : Env} {s : State} {m : MethodId} {below : List Frame} {meth : Method} {c : Code} {Q : State → Prop} {D : va_G} {cy : Nat → ClassId} {b : Nat} {xs : Nat → Int32} {lo n o q t : Nat} {w : Nat → va_E} (hfl : l.stackTraces = false) (hC : LC D cy p s m c b 6 xs lo) (hI : IV cy w lo n o q t) {H : Heap} {locs : List Loc} {ls : Array Slot} {cells slots : Nat} (hce : s.heap.size + cells = lo + n) (hsl : slots ≤ 2000) (hP : va_P D vwCl (rl lo n w) H) (hS : va_S (fun q : Nat => lo ≤ q) s.heap H locs) (hl : lv_has ls 9 [(0, .ref b), (1, .ref o), (2, .ref q), (3, .ref t), (4, .int (0 : Int32))])
    (kk : ∀ (H : Heap) (locs : List Loc) (ls : Array Slot) (cells slots : Nat), cells ≤ 3000 → slots ≤ 9000 → lv_has ls 9 [(0, .ref b), (4, .int (0 : Int32))] → va_S (fun q : Nat => lo ≤ q) s.heap H locs → W p l e room_1 s m #[Value.ref b] below meth c H locs cells slots Q (F0 m 1794 ls [])) : W p l e room_1 s m #[Value.ref b] below meth c H locs cells slots Q (F0 m 1504 ls []) := by
  obtain ⟨hx, hb, hml, hown, hts, htl, hKI, hXK, hZ, hY, hX, hbs, hlo⟩ := id hC
  have hbl : b < lo := by omega
  have hK : KK D cy s := hKI.1
  obtain ⟨ho, hq, ht, hn, hpw, hM, hB, hF, ht0⟩ := id hI
  refine lv_aload_n hx hb dL_law_1504 rfl (lv_at hl 1 rfl) ?_
  refine lv_aload_n hx hb dL_law_1505 rfl (lv_at hl 0 rfl) ?_
  refine lv_iload hx hb dL_law_1506 (lv_at hl 4 rfl) ?_
  refine lv_iconst (v := 1) hx hb dL_law_1508 (by decide) ?_
  refine lv_iadd hx hb dL_law_1509 ?_
  refine x_sld hx hb hX hbs hbl hS (i := 1) (by decide) (by unfold vp_in; decide) dL_law_1510 ?_
  refine lv_aload_n hx hb dL_law_1511 rfl (lv_at hl 3 rfl) ?_
  have hP1 : va_P D vwCl (rl lo n (pw cy w o G0 G0 P0)) H := by rw [hpw]; exact hP
  refine x_szn (by omega) (by omega) hP (fun hz0 => ?_)
  refine x_callY (vx_runSW (As := [.ref o, .int (xs 1), .ref t]) (rest := []) ⟨hx, hb, hml, hown, hts⟩ (c_L_wouldGive l hfl D cy lo n w o t (by omega) (by omega) (by omega) (by omega) (by omega) _ ht0 (xs 1)) (vx_cwSW 3 hts gL_law_L_wouldGive rfl rfl rfl (by decide +kernel) ⟨Nat.le_of_ble_eq_true rfl, Nat.le_of_ble_eq_true rfl⟩) (preSY hz0 hP1 hK hXK (hZ.kept hS.2.1) hY) rfl rfl hl.1 rfl (lv_room (Nat.le_of_ble_eq_true rfl)) dL_law_1512 ⟨by show _ ≤ 662673; omega, by show _ ≤ 7114216; omega⟩) hS (fun u H locs hf hu hP hzS hS => ?_)
  have hM : MM cy u q 0 5 0 0 0 := hM.ext (fun a ha => hu a (by omega) (by omega))
  have hB : LB cy u q := hB.ext (hu _ (by omega) (by omega))
  have hF : FM cy u (q + 1) 0 300 := hF.ext (fun a h1 h2 => hu a (by omega) (by omega))
  refine lv_istore (lv' := [(5, .int (r_wouldGive (xs 1)).1), (0, .ref b), (1, .ref o), (2, .ref q), (3, .ref t), (4, .int (0 : Int32))]) hx hb dL_law_1515 hl (by decide) rfl (fun ls hl => ?_)
  refine lv_aload_n hx hb dL_law_1517 rfl (lv_at hl 3 rfl) ?_
  refine lv_aload_n hx hb dL_law_1518 rfl (lv_at hl 1 rfl) ?_
  refine lv_iload hx hb dL_law_1519 (lv_at hl 5 rfl) ?_
  refine lv_iconst (v := 1) hx hb dL_law_1521 (by decide) ?_
  refine lv_iadd hx hb dL_law_1522 ?_
  refine x_sld hx hb hX hbs hbl hS (i := 1) (by decide) (by unfold vp_in; decide) dL_law_1523 ?_
  by_cases hgd : 1 ≤ xs 1 ∧ xs 1 ≤ 12
  · have hr0 : (r_wouldGive (xs 1)).1 = 0 := by unfold r_wouldGive; rw [if_pos hgd]
    have hz1 := hzS hr0
    refine x_calliN (va_runV (As := [.int (xs 1)]) (rest := []) ⟨hx, hb, hml, hown, hts⟩ (c_X8_wouldGive_ok l D cy lo n u q (by omega) (by omega) 0 hM hB hF (xs 1) hgd) (cwV 1 hts gL_law_X8_wouldGive rfl rfl rfl (by decide +kernel) ⟨Nat.le_of_ble_eq_true rfl, Nat.le_of_ble_eq_true rfl⟩) (preVN hz1 hP hKI (x_recv (ci := 8) (q := (RX8, TX8, 8)) hK.1 hP (by omega) (by omega) rfl hM.self)) rfl rfl hl.1 rfl (lv_room (Nat.le_of_ble_eq_true rfl)) dL_law_1524 ⟨by show _ ≤ 662673; omega, by show _ ≤ 7114216; omega⟩) hS (fun v2 u2 H locs hX2 hP hzN hS => ?_)
    obtain ⟨hth, hans, hu2⟩ := hX2
    obtain ⟨n2, hn2⟩ : ∃ n2, n2 = n + 1 + 15 := ⟨_, rfl⟩
    rw [← hn2] at hP
    refine lv_istore (lv' := [(6, .int v2), (5, .int (r_wouldGive (xs 1)).1), (0, .ref b), (1, .ref o), (2, .ref q), (3, .ref t), (4, .int (0 : Int32))]) hx hb dL_law_1527 hl (by decide) rfl (fun ls hl => ?_)
    refine lv_aload_n hx hb dL_law_1529 rfl (lv_at hl 4 rfl) ?_
    obtain ⟨fs2, hfs2⟩ := hth
    refine x_calli (va_runV (As := []) (rest := []) ⟨hx, hb, hml, hown, hts⟩ (c_X8_thrown l D cy lo n2 u2 q (by omega) (by omega) _ fs2 hfs2) (cwV 0 hts gL_law_X8_thrown rfl rfl rfl (by decide +kernel) ⟨Nat.le_of_ble_eq_true rfl, Nat.le_of_ble_eq_true rfl⟩) (preV hP hK (x_recv (ci := 8) (q := (RX8, TX8, 8)) hK.1 hP (by omega) (by omega) rfl hfs2)) rfl rfl hl.1 rfl (lv_room (Nat.le_of_ble_eq_true rfl)) dL_law_1530 ⟨by show _ ≤ 662673; omega, by show _ ≤ 7114216; omega⟩) hS (fun H locs hP hS => ?_)
    refine lv_iload hx hb dL_law_1533 (lv_at hl 1 rfl) ?_
    refine lv_icmp_eq (tgt := 1540) hx hb dL_law_1535 (by decide) (fun _ => ?_) (fun h9 => absurd rfl h9)
    refine lv_iload hx hb dL_law_1540 (lv_at hl 1 rfl) ?_
    refine lv_if_ne (tgt := 1557) hx hb dL_law_1542 (by decide) (fun _ => ?_) (fun h0 => ?_)
    · refine lv_goto (tgt := 1794) hx hb dL_law_1557 (by decide) ?_
      exact kk H locs ls _ _ (by omega) (by omega) (lv_sub hl [2, 6] rfl) hS
    · refine lv_aload_n hx hb dL_law_1545 rfl (lv_at hl 5 rfl) ?_
      refine lv_iconst (v := 0) hx hb dL_law_1546 (by decide) ?_
      obtain ⟨f9, hf9, hg9⟩ := hf
      have hut : u2 t = .inl (cy 7, 1, .inr (.inl f9)) := (hu2 t (by omega) (by omega)).trans hf9
      refine x_lald hx hb hK.1 hP (by omega) (by omega) 7 hut rfl (cl_of_nI (i := 0) rfl (by omega)) (vp_in_of_nI (i := 0) rfl (by omega) (by omega)) dL_law_1547 ?_
      refine lv_iload hx hb dL_law_1548 (lv_at hl 0 rfl) ?_
      refine lv_i2l (v := f9 0) hx hb dL_law_1550 (by rw [hg9 h0, hans h0]) ?_
      refine W.lcmp hx hb dL_law_1551 ?_
      rw [cmp_rf]
      refine lv_if_eq (tgt := 1557) hx hb dL_law_1552 (by decide) (fun _ => ?_) (fun h9 => absurd rfl h9)
      refine lv_goto (tgt := 1794) hx hb dL_law_1557 (by decide) ?_
      exact kk H locs ls _ _ (by omega) (by omega) (lv_sub hl [2, 6] rfl) hS
  · refine x_callx (va_runV (As := [.int (xs 1)]) (rest := []) ⟨hx, hb, hml, hown, hts⟩ (c_X8_wouldGive_bad l D cy lo n u q (by omega) (by omega) 0 hM hB hF (xs 1) hgd) (cwV 1 hts gL_law_X8_wouldGive rfl rfl rfl (by decide +kernel) ⟨Nat.le_of_ble_eq_true rfl, Nat.le_of_ble_eq_true rfl⟩) (preV hP hK (x_recv (ci := 8) (q := (RX8, TX8, 8)) hK.1 hP (by omega) (by omega) rfl hM.self)) rfl rfl hl.1 rfl (lv_room (Nat.le_of_ble_eq_true rfl)) dL_law_1524 ⟨by show _ ≤ 662673; omega, by show _ ≤ 7114216; omega⟩) hS (fun v2 u2 H locs hX2 hP hS => ?_)
    obtain ⟨hth, hans, hu2⟩ := hX2
    obtain ⟨n2, hn2⟩ : ∃ n2, n2 = n := ⟨n, rfl⟩
    rw [← hn2] at hP
    refine lv_istore (lv' := [(6, .int v2), (5, .int (r_wouldGive (xs 1)).1), (0, .ref b), (1, .ref o), (2, .ref q), (3, .ref t), (4, .int (0 : Int32))]) hx hb dL_law_1527 hl (by decide) rfl (fun ls hl => ?_)
    refine lv_aload_n hx hb dL_law_1529 rfl (lv_at hl 4 rfl) ?_
    obtain ⟨fs2, hfs2⟩ := hth
    refine x_calli (va_runV (As := []) (rest := []) ⟨hx, hb, hml, hown, hts⟩ (c_X8_thrown l D cy lo n2 u2 q (by omega) (by omega) _ fs2 hfs2) (cwV 0 hts gL_law_X8_thrown rfl rfl rfl (by decide +kernel) ⟨Nat.le_of_ble_eq_true rfl, Nat.le_of_ble_eq_true rfl⟩) (preV hP hK (x_recv (ci := 8) (q := (RX8, TX8, 8)) hK.1 hP (by omega) (by omega) rfl hfs2)) rfl rfl hl.1 rfl (lv_room (Nat.le_of_ble_eq_true rfl)) dL_law_1530 ⟨by show _ ≤ 662673; omega, by show _ ≤ 7114216; omega⟩) hS (fun H locs hP hS => ?_)
    refine lv_iload hx hb dL_law_1533 (lv_at hl 1 rfl) ?_
    refine lv_icmp_eq (tgt := 1540) hx hb dL_law_1535 (by decide) (fun _ => ?_) (fun h9 => absurd rfl h9)
    refine lv_iload hx hb dL_law_1540 (lv_at hl 1 rfl) ?_
    refine lv_if_ne (tgt := 1557) hx hb dL_law_1542 (by decide) (fun _ => ?_) (fun h0 => ?_)
    · refine lv_goto (tgt := 1794) hx hb dL_law_1557 (by decide) ?_
      exact kk H locs ls _ _ (by omega) (by omega) (lv_sub hl [2, 6] rfl) hS
    · refine lv_aload_n hx hb dL_law_1545 rfl (lv_at hl 5 rfl) ?_
      refine lv_iconst (v := 0) hx hb dL_law_1546 (by decide) ?_
      obtain ⟨f9, hf9, hg9⟩ := hf
      have hut : u2 t = .inl (cy 7, 1, .inr (.inl f9)) := (hu2 t (by omega)).trans hf9
      refine x_lald hx hb hK.1 hP (by omega) (by omega) 7 hut rfl (cl_of_nI (i := 0) rfl (by omega)) (vp_in_of_nI (i := 0) rfl (by omega) (by omega)) dL_law_1547 ?_
      refine lv_iload hx hb dL_law_1548 (lv_at hl 0 rfl) ?_
      refine lv_i2l (v := f9 0) hx hb dL_law_1550 (by rw [hg9 h0, hans h0]) ?_
      refine W.lcmp hx hb dL_law_1551 ?_
      rw [cmp_rf]
      refine lv_if_eq (tgt := 1557) hx hb dL_law_1552 (by decide) (fun _ => ?_) (fun h9 => absurd rfl h9)
      refine lv_goto (tgt := 1794) hx hb dL_law_1557 (by decide) ?_
      exact kk H locs ls _ _ (by omega) (by omega) (lv_sub hl [2, 6] rfl) hS
set_option maxRecDepth 100000 in
set_option maxHeartbeats 1000000 in
/-- case 22: bestChoke -/
theorem lw_c22 {p : Program} {l : Launch} {e : Env} {s : State} {m : MethodId} {below : List Frame} {meth : Method} {c : Code} {Q : State → Prop} {D : va_G} {cy : Nat → ClassId} {b : Nat} {xs : Nat → Int32} {lo n o q t : Nat} {w : Nat → va_E} (hfl : l.stackTraces = false) (hC : LC D cy p s m c b 6 xs lo) (hI : IV cy w lo n o q t) {H : Heap} {locs : List Loc} {ls : Array Slot} {cells slots : Nat} (hce : s.heap.size + cells = lo + n) (hsl : slots ≤ 2000) (hP : va_P D vwCl (rl lo n w) H) (hS : va_S (fun q : Nat => lo ≤ q) s.heap H locs) (hl : lv_has ls 9 [(0, .ref b), (1, .ref o), (2, .ref q), (3, .ref t), (4, .int (0 : Int32))])
    (kk : ∀ (H : Heap) (locs : List Loc) (ls : Array Slot) (cells slots : Nat), cells ≤ 3000 → slots ≤ 9000 → lv_has ls 9 [(0, .ref b), (4, .int (0 : Int32))] → va_S (fun q : Nat => lo ≤ q) s.heap H locs → W p l e room_1 s m #[Value.ref b] below meth c H locs cells slots Q (F0 m 1794 ls [])) : W p l e room_1 s m #[Value.ref b] below meth c H locs cells slots Q (F0 m 1560 ls []) := by
  obtain ⟨hx, hb, hml, hown, hts, htl, hKI, hXK, hZ, hY, hX, hbs, hlo⟩ := id hC
  have hbl : b < lo := by omega
  have hK : KK D cy s := hKI.1
  obtain ⟨ho, hq, ht, hn, hpw, hM, hB, hF, ht0⟩ := id hI
  refine lv_aload_n hx hb dL_law_1560 rfl (lv_at hl 1 rfl) ?_
  refine lv_aload_n hx hb dL_law_1561 rfl (lv_at hl 0 rfl) ?_
  refine lv_iload hx hb dL_law_1562 (lv_at hl 4 rfl) ?_
  refine lv_iconst (v := 1) hx hb dL_law_1564 (by decide) ?_
  refine lv_iadd hx hb dL_law_1565 ?_
  refine x_sld hx hb hX hbs hbl hS (i := 1) (by decide) (by unfold vp_in; decide) dL_law_1566 ?_
  refine lv_aload_n hx hb dL_law_1567 rfl (lv_at hl 0 rfl) ?_
  refine lv_iload hx hb dL_law_1568 (lv_at hl 4 rfl) ?_
  refine lv_iconst (v := 2) hx hb dL_law_1570 (by decide) ?_
  refine lv_iadd hx hb dL_law_1571 ?_
  refine x_sld hx hb hX hbs hbl hS (i := 2) (by decide) (by unfold vp_in; decide) dL_law_1572 ?_
  refine lv_aload_n hx hb dL_law_1573 rfl (lv_at hl 3 rfl) ?_
  have hP1 : va_P D vwCl (rl lo n (pw cy w o G0 G0 P0)) H := by rw [hpw]; exact hP
  refine x_szn (by omega) (by omega) hP (fun hz0 => ?_)
  refine x_callY (vx_runSW (As := [.ref o, .int (xs 1), .int (xs 2), .ref t]) (rest := []) ⟨hx, hb, hml, hown, hts⟩ (c_L_bestChoke l hfl D cy lo n w o t (by omega) (by omega) (by omega) (by omega) (by omega) _ ht0 (xs 1) (xs 2)) (vx_cwSW 4 hts gL_law_L_bestChoke rfl rfl rfl (by decide +kernel) ⟨Nat.le_of_ble_eq_true rfl, Nat.le_of_ble_eq_true rfl⟩) (preSY hz0 hP1 hK hXK (hZ.kept hS.2.1) hY) rfl rfl hl.1 rfl (lv_room (Nat.le_of_ble_eq_true rfl)) dL_law_1574 ⟨by show _ ≤ 662673; omega, by show _ ≤ 7114216; omega⟩) hS (fun u H locs hf hu hP hzS hS => ?_)
  have hM : MM cy u q 0 5 0 0 0 := hM.ext (fun a ha => hu a (by omega) (by omega))
  have hB : LB cy u q := hB.ext (hu _ (by omega) (by omega))
  have hF : FM cy u (q + 1) 0 300 := hF.ext (fun a h1 h2 => hu a (by omega) (by omega))
  refine lv_istore (lv' := [(5, .int (r_bestChoke (xs 1) (xs 2)).1), (0, .ref b), (1, .ref o), (2, .ref q), (3, .ref t), (4, .int (0 : Int32))]) hx hb dL_law_1577 hl (by decide) rfl (fun ls hl => ?_)
  refine lv_aload_n hx hb dL_law_1579 rfl (lv_at hl 3 rfl) ?_
  refine lv_aload_n hx hb dL_law_1580 rfl (lv_at hl 1 rfl) ?_
  refine lv_iload hx hb dL_law_1581 (lv_at hl 5 rfl) ?_
  refine lv_iconst (v := 1) hx hb dL_law_1583 (by decide) ?_
  refine lv_iadd hx hb dL_law_1584 ?_
  refine x_sld hx hb hX hbs hbl hS (i := 1) (by decide) (by unfold vp_in; decide) dL_law_1585 ?_
  refine lv_aload_n hx hb dL_law_1586 rfl (lv_at hl 1 rfl) ?_
  refine lv_iload hx hb dL_law_1587 (lv_at hl 5 rfl) ?_
  refine lv_iconst (v := 2) hx hb dL_law_1589 (by decide) ?_
  refine lv_iadd hx hb dL_law_1590 ?_
  refine x_sld hx hb hX hbs hbl hS (i := 2) (by decide) (by unfold vp_in; decide) dL_law_1591 ?_
  refine x_callx (va_runV (As := [.int (xs 1), .int (xs 2)]) (rest := []) ⟨hx, hb, hml, hown, hts⟩ (c_X8_bestChoke l D cy lo n u q (by omega) (by omega) 0 hM hB hF (xs 1) (xs 2)) (cwV 2 hts gL_law_X8_bestChoke rfl rfl rfl (by decide +kernel) ⟨Nat.le_of_ble_eq_true rfl, Nat.le_of_ble_eq_true rfl⟩) (preV hP hK (x_recv (ci := 8) (q := (RX8, TX8, 8)) hK.1 hP (by omega) (by omega) rfl hM.self)) rfl rfl hl.1 rfl (lv_room (Nat.le_of_ble_eq_true rfl)) dL_law_1592 ⟨by show _ ≤ 662673; omega, by show _ ≤ 7114216; omega⟩) hS (fun v2 u2 H locs hX2 hP hS => ?_)
  obtain ⟨hth, hans, hu2⟩ := hX2
  obtain ⟨n2, hn2⟩ : ∃ n2, n2 = n := ⟨n, rfl⟩
  rw [← hn2] at hP
  refine lv_istore (lv' := [(6, .int v2), (5, .int (r_bestChoke (xs 1) (xs 2)).1), (0, .ref b), (1, .ref o), (2, .ref q), (3, .ref t), (4, .int (0 : Int32))]) hx hb dL_law_1595 hl (by decide) rfl (fun ls hl => ?_)
  refine lv_aload_n hx hb dL_law_1597 rfl (lv_at hl 4 rfl) ?_
  obtain ⟨fs2, hfs2⟩ := hth
  refine x_calli (va_runV (As := []) (rest := []) ⟨hx, hb, hml, hown, hts⟩ (c_X8_thrown l D cy lo n2 u2 q (by omega) (by omega) _ fs2 hfs2) (cwV 0 hts gL_law_X8_thrown rfl rfl rfl (by decide +kernel) ⟨Nat.le_of_ble_eq_true rfl, Nat.le_of_ble_eq_true rfl⟩) (preV hP hK (x_recv (ci := 8) (q := (RX8, TX8, 8)) hK.1 hP (by omega) (by omega) rfl hfs2)) rfl rfl hl.1 rfl (lv_room (Nat.le_of_ble_eq_true rfl)) dL_law_1598 ⟨by show _ ≤ 662673; omega, by show _ ≤ 7114216; omega⟩) hS (fun H locs hP hS => ?_)
  refine lv_iload hx hb dL_law_1601 (lv_at hl 1 rfl) ?_
  refine lv_icmp_eq (tgt := 1608) hx hb dL_law_1603 (by decide) (fun _ => ?_) (fun h9 => absurd rfl h9)
  refine lv_iload hx hb dL_law_1608 (lv_at hl 1 rfl) ?_
  refine lv_if_ne (tgt := 1625) hx hb dL_law_1610 (by decide) (fun _ => ?_) (fun h0 => ?_)
  · refine lv_goto (tgt := 1794) hx hb dL_law_1625 (by decide) ?_
    exact kk H locs ls _ _ (by omega) (by omega) (lv_sub hl [2, 6] rfl) hS
  · refine lv_aload_n hx hb dL_law_1613 rfl (lv_at hl 5 rfl) ?_
    refine lv_iconst (v := 0) hx hb dL_law_1614 (by decide) ?_
    obtain ⟨f9, hf9, hg9⟩ := hf
    have hut : u2 t = .inl (cy 7, 1, .inr (.inl f9)) := (hu2 t (by omega)).trans hf9
    refine x_lald hx hb hK.1 hP (by omega) (by omega) 7 hut rfl (cl_of_nI (i := 0) rfl (by omega)) (vp_in_of_nI (i := 0) rfl (by omega) (by omega)) dL_law_1615 ?_
    refine lv_iload hx hb dL_law_1616 (lv_at hl 0 rfl) ?_
    refine lv_i2l (v := f9 0) hx hb dL_law_1618 (by rw [hg9 h0, hans h0]) ?_
    refine W.lcmp hx hb dL_law_1619 ?_
    rw [cmp_rf]
    refine lv_if_eq (tgt := 1625) hx hb dL_law_1620 (by decide) (fun _ => ?_) (fun h9 => absurd rfl h9)
    refine lv_goto (tgt := 1794) hx hb dL_law_1625 (by decide) ?_
    exact kk H locs ls _ _ (by omega) (by omega) (lv_sub hl [2, 6] rfl) hS
set_option maxRecDepth 100000 in
set_option maxHeartbeats 1000000 in
/-- case 23: keptBack -/
theorem lw_c23 {p : Program} {l : Launch} {e : Env} {s : State} {m : MethodId} {below : List Frame} {meth : Method} {c : Code} {Q : State → Prop} {D : va_G} {cy : Nat → ClassId} {b : Nat} {xs : Nat → Int32} {lo n o q t : Nat} {w : Nat → va_E} (hfl : l.stackTraces = false) (hC : LC D cy p s m c b 6 xs lo) (hI : IV cy w lo n o q t) {H : Heap} {locs : List Loc} {ls : Array Slot} {cells slots : Nat} (hce : s.heap.size + cells = lo + n) (hsl : slots ≤ 2000) (hP : va_P D vwCl (rl lo n w) H) (hS : va_S (fun q : Nat => lo ≤ q) s.heap H locs) (hl : lv_has ls 9 [(0, .ref b), (1, .ref o), (2, .ref q), (3, .ref t), (4, .int (0 : Int32))])
    (kk : ∀ (H : Heap) (locs : List Loc) (ls : Array Slot) (cells slots : Nat), cells ≤ 3000 → slots ≤ 9000 → lv_has ls 9 [(0, .ref b), (4, .int (0 : Int32))] → va_S (fun q : Nat => lo ≤ q) s.heap H locs → W p l e room_1 s m #[Value.ref b] below meth c H locs cells slots Q (F0 m 1794 ls [])) : W p l e room_1 s m #[Value.ref b] below meth c H locs cells slots Q (F0 m 1628 ls []) := by
  obtain ⟨hx, hb, hml, hown, hts, htl, hKI, hXK, hZ, hY, hX, hbs, hlo⟩ := id hC
  have hbl : b < lo := by omega
  have hK : KK D cy s := hKI.1
  obtain ⟨ho, hq, ht, hn, hpw, hM, hB, hF, ht0⟩ := id hI
  refine lv_aload_n hx hb dL_law_1628 rfl (lv_at hl 1 rfl) ?_
  refine lv_aload_n hx hb dL_law_1629 rfl (lv_at hl 0 rfl) ?_
  refine lv_iload hx hb dL_law_1630 (lv_at hl 4 rfl) ?_
  refine lv_iconst (v := 1) hx hb dL_law_1632 (by decide) ?_
  refine lv_iadd hx hb dL_law_1633 ?_
  refine x_sld hx hb hX hbs hbl hS (i := 1) (by decide) (by unfold vp_in; decide) dL_law_1634 ?_
  refine lv_aload_n hx hb dL_law_1635 rfl (lv_at hl 0 rfl) ?_
  refine lv_iload hx hb dL_law_1636 (lv_at hl 4 rfl) ?_
  refine lv_iconst (v := 2) hx hb dL_law_1638 (by decide) ?_
  refine lv_iadd hx hb dL_law_1639 ?_
  refine x_sld hx hb hX hbs hbl hS (i := 2) (by decide) (by unfold vp_in; decide) dL_law_1640 ?_
  refine x_bz hx hb dL_law_1641 dL_law_1644 dL_law_1645 dL_law_1648 ?_
  refine lv_aload_n hx hb dL_law_1649 rfl (lv_at hl 0 rfl) ?_
  refine lv_iload hx hb dL_law_1650 (lv_at hl 4 rfl) ?_
  refine lv_iconst (v := 3) hx hb dL_law_1652 (by decide) ?_
  refine lv_iadd hx hb dL_law_1653 ?_
  refine x_sld hx hb hX hbs hbl hS (i := 3) (by decide) (by unfold vp_in; decide) dL_law_1654 ?_
  refine lv_aload_n hx hb dL_law_1655 rfl (lv_at hl 3 rfl) ?_
  have hP1 : va_P D vwCl (rl lo n (pw cy w o G0 G0 P0)) H := by rw [hpw]; exact hP
  refine x_szn (by omega) (by omega) hP (fun hz0 => ?_)
  refine x_callY (vx_runSW (As := [.ref o, .int (xs 1), .int (bz (xs 2)), .int (xs 3), .ref t]) (rest := []) ⟨hx, hb, hml, hown, hts⟩ (c_L_keptBack l hfl D cy lo n w o t (by omega) (by omega) (by omega) (by omega) (by omega) _ ht0 (xs 1) (bz (xs 2)) (xs 3)) (vx_cwSW 5 hts gL_law_L_keptBack rfl rfl rfl (by decide +kernel) ⟨Nat.le_of_ble_eq_true rfl, Nat.le_of_ble_eq_true rfl⟩) (preSY hz0 hP1 hK hXK (hZ.kept hS.2.1) hY) rfl rfl hl.1 rfl (lv_room (Nat.le_of_ble_eq_true rfl)) dL_law_1656 ⟨by show _ ≤ 662673; omega, by show _ ≤ 7114216; omega⟩) hS (fun u H locs hf hu hP hzS hS => ?_)
  have hM : MM cy u q 0 5 0 0 0 := hM.ext (fun a ha => hu a (by omega) (by omega))
  have hB : LB cy u q := hB.ext (hu _ (by omega) (by omega))
  have hF : FM cy u (q + 1) 0 300 := hF.ext (fun a h1 h2 => hu a (by omega) (by omega))
  refine lv_istore (lv' := [(5, .int (r_keptBack (xs 1) (bz (xs 2)) (xs 3)).1), (0, .ref b), (1, .ref o), (2, .ref q), (3, .ref t), (4, .int (0 : Int32))]) hx hb dL_law_1659 hl (by decide) rfl (fun ls hl => ?_)
  refine lv_aload_n hx hb dL_law_1661 rfl (lv_at hl 3 rfl) ?_
  refine lv_aload_n hx hb dL_law_1662 rfl (lv_at hl 1 rfl) ?_
  refine lv_iload hx hb dL_law_1663 (lv_at hl 5 rfl) ?_
  refine lv_iconst (v := 1) hx hb dL_law_1665 (by decide) ?_
  refine lv_iadd hx hb dL_law_1666 ?_
  refine x_sld hx hb hX hbs hbl hS (i := 1) (by decide) (by unfold vp_in; decide) dL_law_1667 ?_
  refine lv_aload_n hx hb dL_law_1668 rfl (lv_at hl 1 rfl) ?_
  refine lv_iload hx hb dL_law_1669 (lv_at hl 5 rfl) ?_
  refine lv_iconst (v := 2) hx hb dL_law_1671 (by decide) ?_
  refine lv_iadd hx hb dL_law_1672 ?_
  refine x_sld hx hb hX hbs hbl hS (i := 2) (by decide) (by unfold vp_in; decide) dL_law_1673 ?_
  refine x_bz hx hb dL_law_1674 dL_law_1677 dL_law_1678 dL_law_1681 ?_
  refine lv_aload_n hx hb dL_law_1682 rfl (lv_at hl 1 rfl) ?_
  refine lv_iload hx hb dL_law_1683 (lv_at hl 5 rfl) ?_
  refine lv_iconst (v := 3) hx hb dL_law_1685 (by decide) ?_
  refine lv_iadd hx hb dL_law_1686 ?_
  refine x_sld hx hb hX hbs hbl hS (i := 3) (by decide) (by unfold vp_in; decide) dL_law_1687 ?_
  refine x_callx (va_runV (As := [.int (xs 1), .int (bz (xs 2)), .int (xs 3)]) (rest := []) ⟨hx, hb, hml, hown, hts⟩ (c_X8_keptBack l D cy lo n u q (by omega) (by omega) 0 hM hB hF (xs 1) (bz (xs 2)) (xs 3)) (cwV 3 hts gL_law_X8_keptBack rfl rfl rfl (by decide +kernel) ⟨Nat.le_of_ble_eq_true rfl, Nat.le_of_ble_eq_true rfl⟩) (preV hP hK (x_recv (ci := 8) (q := (RX8, TX8, 8)) hK.1 hP (by omega) (by omega) rfl hM.self)) rfl rfl hl.1 rfl (lv_room (Nat.le_of_ble_eq_true rfl)) dL_law_1688 ⟨by show _ ≤ 662673; omega, by show _ ≤ 7114216; omega⟩) hS (fun v2 u2 H locs hX2 hP hS => ?_)
  obtain ⟨hth, hans, hu2⟩ := hX2
  obtain ⟨n2, hn2⟩ : ∃ n2, n2 = n := ⟨n, rfl⟩
  rw [← hn2] at hP
  refine lv_istore (lv' := [(6, .int v2), (5, .int (r_keptBack (xs 1) (bz (xs 2)) (xs 3)).1), (0, .ref b), (1, .ref o), (2, .ref q), (3, .ref t), (4, .int (0 : Int32))]) hx hb dL_law_1691 hl (by decide) rfl (fun ls hl => ?_)
  refine lv_aload_n hx hb dL_law_1693 rfl (lv_at hl 4 rfl) ?_
  obtain ⟨fs2, hfs2⟩ := hth
  refine x_calli (va_runV (As := []) (rest := []) ⟨hx, hb, hml, hown, hts⟩ (c_X8_thrown l D cy lo n2 u2 q (by omega) (by omega) _ fs2 hfs2) (cwV 0 hts gL_law_X8_thrown rfl rfl rfl (by decide +kernel) ⟨Nat.le_of_ble_eq_true rfl, Nat.le_of_ble_eq_true rfl⟩) (preV hP hK (x_recv (ci := 8) (q := (RX8, TX8, 8)) hK.1 hP (by omega) (by omega) rfl hfs2)) rfl rfl hl.1 rfl (lv_room (Nat.le_of_ble_eq_true rfl)) dL_law_1694 ⟨by show _ ≤ 662673; omega, by show _ ≤ 7114216; omega⟩) hS (fun H locs hP hS => ?_)
  refine lv_iload hx hb dL_law_1697 (lv_at hl 1 rfl) ?_
  refine lv_icmp_eq (tgt := 1704) hx hb dL_law_1699 (by decide) (fun _ => ?_) (fun h9 => absurd rfl h9)
  refine lv_iload hx hb dL_law_1704 (lv_at hl 1 rfl) ?_
  refine lv_if_ne (tgt := 1721) hx hb dL_law_1706 (by decide) (fun _ => ?_) (fun h0 => ?_)
  · refine lv_goto (tgt := 1794) hx hb dL_law_1721 (by decide) ?_
    exact kk H locs ls _ _ (by omega) (by omega) (lv_sub hl [2, 6] rfl) hS
  · refine lv_aload_n hx hb dL_law_1709 rfl (lv_at hl 5 rfl) ?_
    refine lv_iconst (v := 0) hx hb dL_law_1710 (by decide) ?_
    obtain ⟨f9, hf9, hg9⟩ := hf
    have hut : u2 t = .inl (cy 7, 1, .inr (.inl f9)) := (hu2 t (by omega)).trans hf9
    refine x_lald hx hb hK.1 hP (by omega) (by omega) 7 hut rfl (cl_of_nI (i := 0) rfl (by omega)) (vp_in_of_nI (i := 0) rfl (by omega) (by omega)) dL_law_1711 ?_
    refine lv_iload hx hb dL_law_1712 (lv_at hl 0 rfl) ?_
    refine lv_i2l (v := f9 0) hx hb dL_law_1714 (by rw [hg9 h0, hans h0]) ?_
    refine W.lcmp hx hb dL_law_1715 ?_
    rw [cmp_rf]
    refine lv_if_eq (tgt := 1721) hx hb dL_law_1716 (by decide) (fun _ => ?_) (fun h9 => absurd rfl h9)
    refine lv_goto (tgt := 1794) hx hb dL_law_1721 (by decide) ?_
    exact kk H locs ls _ _ (by omega) (by omega) (lv_sub hl [2, 6] rfl) hS
set_option maxRecDepth 100000 in
set_option maxHeartbeats 1000000 in
/-- case 24: mayLift -/
theorem lw_c24 {p : Program} {l : Launch} {e : Env} {s : State} {m : MethodId} {below : List Frame} {meth : Method} {c : Code} {Q : State → Prop} {D : va_G} {cy : Nat → ClassId} {b : Nat} {xs : Nat → Int32} {lo n o q t : Nat} {w : Nat → va_E} (hfl : l.stackTraces = false) (hC : LC D cy p s m c b 6 xs lo) (hI : IV cy w lo n o q t) {H : Heap} {locs : List Loc} {ls : Array Slot} {cells slots : Nat} (hce : s.heap.size + cells = lo + n) (hsl : slots ≤ 2000) (hP : va_P D vwCl (rl lo n w) H) (hS : va_S (fun q : Nat => lo ≤ q) s.heap H locs) (hl : lv_has ls 9 [(0, .ref b), (1, .ref o), (2, .ref q), (3, .ref t), (4, .int (0 : Int32))])
    (kk : ∀ (H : Heap) (locs : List Loc) (ls : Array Slot) (cells slots : Nat), cells ≤ 3000 → slots ≤ 9000 → lv_has ls 9 [(0, .ref b), (4, .int (0 : Int32))] → va_S (fun q : Nat => lo ≤ q) s.heap H locs → W p l e room_1 s m #[Value.ref b] below meth c H locs cells slots Q (F0 m 1794 ls [])) : W p l e room_1 s m #[Value.ref b] below meth c H locs cells slots Q (F0 m 1724 ls []) := by
  obtain ⟨hx, hb, hml, hown, hts, htl, hKI, hXK, hZ, hY, hX, hbs, hlo⟩ := id hC
  have hbl : b < lo := by omega
  have hK : KK D cy s := hKI.1
  obtain ⟨ho, hq, ht, hn, hpw, hM, hB, hF, ht0⟩ := id hI
  refine lv_aload_n hx hb dL_law_1724 rfl (lv_at hl 1 rfl) ?_
  refine lv_aload_n hx hb dL_law_1725 rfl (lv_at hl 0 rfl) ?_
  refine lv_iload hx hb dL_law_1726 (lv_at hl 4 rfl) ?_
  refine lv_iconst (v := 1) hx hb dL_law_1728 (by decide) ?_
  refine lv_iadd hx hb dL_law_1729 ?_
  refine x_sld hx hb hX hbs hbl hS (i := 1) (by decide) (by unfold vp_in; decide) dL_law_1730 ?_
  refine lv_aload_n hx hb dL_law_1731 rfl (lv_at hl 3 rfl) ?_
  have hP1 : va_P D vwCl (rl lo n (pw cy w o G0 G0 P0)) H := by rw [hpw]; exact hP
  refine x_szn (by omega) (by omega) hP (fun hz0 => ?_)
  refine x_callY (vx_runSW (As := [.ref o, .int (xs 1), .ref t]) (rest := []) ⟨hx, hb, hml, hown, hts⟩ (c_L_mayLift l hfl D cy lo n w o t (by omega) (by omega) (by omega) (by omega) (by omega) _ ht0 (xs 1)) (vx_cwSW 3 hts gL_law_L_mayLift rfl rfl rfl (by decide +kernel) ⟨Nat.le_of_ble_eq_true rfl, Nat.le_of_ble_eq_true rfl⟩) (preSY hz0 hP1 hK hXK (hZ.kept hS.2.1) hY) rfl rfl hl.1 rfl (lv_room (Nat.le_of_ble_eq_true rfl)) dL_law_1732 ⟨by show _ ≤ 662673; omega, by show _ ≤ 7114216; omega⟩) hS (fun u H locs hf hu hP hzS hS => ?_)
  have hM : MM cy u q 0 5 0 0 0 := hM.ext (fun a ha => hu a (by omega) (by omega))
  have hB : LB cy u q := hB.ext (hu _ (by omega) (by omega))
  have hF : FM cy u (q + 1) 0 300 := hF.ext (fun a h1 h2 => hu a (by omega) (by omega))
  refine lv_istore (lv' := [(5, .int (r_mayLift (xs 1)).1), (0, .ref b), (1, .ref o), (2, .ref q), (3, .ref t), (4, .int (0 : Int32))]) hx hb dL_law_1735 hl (by decide) rfl (fun ls hl => ?_)
  refine lv_aload_n hx hb dL_law_1737 rfl (lv_at hl 3 rfl) ?_
  refine lv_aload_n hx hb dL_law_1738 rfl (lv_at hl 1 rfl) ?_
  refine lv_iload hx hb dL_law_1739 (lv_at hl 5 rfl) ?_
  refine lv_iconst (v := 1) hx hb dL_law_1741 (by decide) ?_
  refine lv_iadd hx hb dL_law_1742 ?_
  refine x_sld hx hb hX hbs hbl hS (i := 1) (by decide) (by unfold vp_in; decide) dL_law_1743 ?_
  refine x_callx (va_runV (As := [.int (xs 1)]) (rest := []) ⟨hx, hb, hml, hown, hts⟩ (c_X8_mayLift l D cy lo n u q (by omega) (by omega) 0 hM hB hF (xs 1)) (cwV 1 hts gL_law_X8_mayLift rfl rfl rfl (by decide +kernel) ⟨Nat.le_of_ble_eq_true rfl, Nat.le_of_ble_eq_true rfl⟩) (preV hP hK (x_recv (ci := 8) (q := (RX8, TX8, 8)) hK.1 hP (by omega) (by omega) rfl hM.self)) rfl rfl hl.1 rfl (lv_room (Nat.le_of_ble_eq_true rfl)) dL_law_1744 ⟨by show _ ≤ 662673; omega, by show _ ≤ 7114216; omega⟩) hS (fun v2 u2 H locs hX2 hP hS => ?_)
  obtain ⟨hth, hans, hu2⟩ := hX2
  obtain ⟨n2, hn2⟩ : ∃ n2, n2 = n := ⟨n, rfl⟩
  rw [← hn2] at hP
  refine lv_istore (lv' := [(6, .int v2), (5, .int (r_mayLift (xs 1)).1), (0, .ref b), (1, .ref o), (2, .ref q), (3, .ref t), (4, .int (0 : Int32))]) hx hb dL_law_1747 hl (by decide) rfl (fun ls hl => ?_)
  refine lv_aload_n hx hb dL_law_1749 rfl (lv_at hl 4 rfl) ?_
  obtain ⟨fs2, hfs2⟩ := hth
  refine x_calli (va_runV (As := []) (rest := []) ⟨hx, hb, hml, hown, hts⟩ (c_X8_thrown l D cy lo n2 u2 q (by omega) (by omega) _ fs2 hfs2) (cwV 0 hts gL_law_X8_thrown rfl rfl rfl (by decide +kernel) ⟨Nat.le_of_ble_eq_true rfl, Nat.le_of_ble_eq_true rfl⟩) (preV hP hK (x_recv (ci := 8) (q := (RX8, TX8, 8)) hK.1 hP (by omega) (by omega) rfl hfs2)) rfl rfl hl.1 rfl (lv_room (Nat.le_of_ble_eq_true rfl)) dL_law_1750 ⟨by show _ ≤ 662673; omega, by show _ ≤ 7114216; omega⟩) hS (fun H locs hP hS => ?_)
  refine lv_iload hx hb dL_law_1753 (lv_at hl 1 rfl) ?_
  refine lv_icmp_eq (tgt := 1760) hx hb dL_law_1755 (by decide) (fun _ => ?_) (fun h9 => absurd rfl h9)
  refine lv_iload hx hb dL_law_1760 (lv_at hl 1 rfl) ?_
  refine lv_if_ne (tgt := 1777) hx hb dL_law_1762 (by decide) (fun _ => ?_) (fun h0 => ?_)
  · refine lv_goto (tgt := 1794) hx hb dL_law_1777 (by decide) ?_
    exact kk H locs ls _ _ (by omega) (by omega) (lv_sub hl [2, 6] rfl) hS
  · refine lv_aload_n hx hb dL_law_1765 rfl (lv_at hl 5 rfl) ?_
    refine lv_iconst (v := 0) hx hb dL_law_1766 (by decide) ?_
    obtain ⟨f9, hf9, hg9⟩ := hf
    have hut : u2 t = .inl (cy 7, 1, .inr (.inl f9)) := (hu2 t (by omega)).trans hf9
    refine x_lald hx hb hK.1 hP (by omega) (by omega) 7 hut rfl (cl_of_nI (i := 0) rfl (by omega)) (vp_in_of_nI (i := 0) rfl (by omega) (by omega)) dL_law_1767 ?_
    refine lv_iload hx hb dL_law_1768 (lv_at hl 0 rfl) ?_
    refine lv_i2l (v := f9 0) hx hb dL_law_1770 (by rw [hg9 h0, hans h0]) ?_
    refine W.lcmp hx hb dL_law_1771 ?_
    rw [cmp_rf]
    refine lv_if_eq (tgt := 1777) hx hb dL_law_1772 (by decide) (fun _ => ?_) (fun h9 => absurd rfl h9)
    refine lv_goto (tgt := 1794) hx hb dL_law_1777 (by decide) ?_
    exact kk H locs ls _ _ (by omega) (by omega) (lv_sub hl [2, 6] rfl) hS
set_option maxRecDepth 100000 in
set_option maxHeartbeats 1000000 in
/-- case 25: digest -/
theorem lw_c25 {p : Program} {l : Launch} {e : Env} {s : State} {m : MethodId} {below : List Frame} {meth : Method} {c : Code} {Q : State → Prop} {D : va_G} {cy : Nat → ClassId} {b : Nat} {xs : Nat → Int32} {lo n o q t : Nat} {w : Nat → va_E} (hfl : l.stackTraces = false) (hC : LC D cy p s m c b 6 xs lo) (hI : IV cy w lo n o q t) {H : Heap} {locs : List Loc} {ls : Array Slot} {cells slots : Nat} (hce : s.heap.size + cells = lo + n) (hsl : slots ≤ 2000) (hP : va_P D vwCl (rl lo n w) H) (hS : va_S (fun q : Nat => lo ≤ q) s.heap H locs) (hl : lv_has ls 9 [(0, .ref b), (1, .ref o), (2, .ref q), (3, .ref t), (4, .int (0 : Int32))])
    (kk : ∀ (H : Heap) (locs : List Loc) (ls : Array Slot) (cells slots : Nat), cells ≤ 3000 → slots ≤ 9000 → lv_has ls 9 [(0, .ref b), (4, .int (0 : Int32))] → va_S (fun q : Nat => lo ≤ q) s.heap H locs → W p l e room_1 s m #[Value.ref b] below meth c H locs cells slots Q (F0 m 1794 ls [])) : W p l e room_1 s m #[Value.ref b] below meth c H locs cells slots Q (F0 m 1780 ls []) := by
  obtain ⟨hx, hb, hml, hown, hts, htl, hKI, hXK, hZ, hY, hX, hbs, hlo⟩ := id hC
  have hbl : b < lo := by omega
  have hK : KK D cy s := hKI.1
  obtain ⟨ho, hq, ht, hn, hpw, hM, hB, hF, ht0⟩ := id hI
  refine lv_aload_n hx hb dL_law_1780 rfl (lv_at hl 1 rfl) ?_
  have hP : va_P D vwCl (rl lo n (pw cy w o G0 G0 P0)) H := by rw [hpw]; exact hP
  refine x_calll (va_runV (As := []) (rest := []) ⟨hx, hb, hml, hown, htl⟩ (c_X6_digest l D cy lo n w o G0 G0 P0 (by omega) (by omega) 0 gi_G0) (cwV 0 htl gT_X6_digest rfl rfl rfl (by decide +kernel) ⟨Nat.le_of_ble_eq_true rfl, Nat.le_of_ble_eq_true rfl⟩) (preV hP hK (x_recv (ci := 6) (q := (RX6, TX6, 11)) hK.1 hP (by omega) (by omega) rfl pwx_0)) rfl rfl hl.1 rfl (lv_room (Nat.le_of_ble_eq_true rfl)) dL_law_1781 ⟨by show _ ≤ 662673; omega, by show _ ≤ 7114216; omega⟩) hS (fun H locs hP hS => ?_)
  rw [dig_0]
  refine x_gen hP (fun u eu hP => ?_)
  have hu : ∀ a, (a < o ∨ o + 118 ≤ a) → u a = w a := fun a ha => by rw [eu]; exact (gw_out (by omega)).trans ((gw_out (by omega)).trans (hw_out (by omega)))
  have hM : MM cy u q 0 5 0 0 0 := hM.ext (fun a ha => hu a (by omega))
  have hB : LB cy u q := hB.ext (hu _ (by omega))
  have hF : FM cy u (q + 1) 0 300 := hF.ext (fun a h1 h2 => hu a (by omega))
  clear eu
  refine lv_aload_n hx hb dL_law_1784 rfl (lv_at hl 2 rfl) ?_
  refine x_szn (by omega) (by omega) hP (fun hz0 => ?_)
  refine x_calllN (va_runV (As := []) (rest := [.long (3033182947888530339 : Int64)]) ⟨hx, hb, hml, hown, htl⟩ (c_X8_digest l D cy lo n u q (by omega) (by omega) 0 hM hB hF) (cwV 0 htl gT_X8_digest rfl rfl rfl (by decide +kernel) ⟨Nat.le_of_ble_eq_true rfl, Nat.le_of_ble_eq_true rfl⟩) (preVN hz0 hP hKI (x_recv (ci := 8) (q := (RX8, TX8, 8)) hK.1 hP (by omega) (by omega) rfl hM.self)) rfl rfl hl.1 rfl (lv_room (Nat.le_of_ble_eq_true rfl)) dL_law_1785 ⟨by show _ ≤ 662673; omega, by show _ ≤ 7114216; omega⟩) hS (fun v2 u2 H locs hX2 hP hzN hS => ?_)
  obtain ⟨rfl, -, -⟩ := hX2
  refine W.lcmp hx hb dL_law_1788 ?_
  rw [cmp_rf]
  refine lv_if_eq (tgt := 1794) hx hb dL_law_1789 (by decide) (fun _ => ?_) (fun h9 => absurd rfl h9)
  exact kk H locs ls _ _ (by omega) (by omega) (lv_sub hl [0, 4] rfl) hS
