/-! the law: stretch 4 -/
set_option maxRecDepth 100000 in
set_option maxHeartbeats 1000000 in
/-- the best choke is none better -/
theorem lw_best {p : Program} {l : Launch} {e : Env} {s : State} {m : MethodId} {below : List Frame} {meth : Method} {c : Code} {Q : State → Prop} {D : va_G} {cy : Nat → ClassId} {b L : Nat} {xs : Nat → Int32} (hC : LC D cy p s m c b L) {H0 H : Heap} {locs : List Loc} {ls : Array Slot} {cells slots : Nat} (hce : cells ≤ 700000) (hsl : slots ≤ 6000000) {lo n : Nat} {w : Nat → va_E} (hX : va_X b L xs s H0) (hbl : b < lo) {A A2 : Nat → Prop} {t o d wo wo2 ti k : Nat} {wr wr2 : Nat → Nat} {G T T2 P : Mem} {d2 iw ic mo ot : Nat} {B : Int} {bv : Int32} (hk : k < 7) (hiw : iw < 3) (hm1 : 1 ≤ mo) (hm4 : mo ≤ 4) (hot : ot < 10) (hW : WI B G) (hB : B ≤ 100000) (hbv : ((P (103 + 2 * iw) 0 = 1 ∧ bv = -1) ∨ (P (103 + 2 * iw) 0 = 0 ∧ bv = (m_best 3 iw mo G G 10).1.1))) (hI : LI cy w A A2 lo n t o b d d2 wo wr wo2 wr2 G T T2 P) (hl : lv_has ls 17 [(0, .ref b), (1, .int (nI ti)), (2, .ref t), (3, .ref o), (4, .ref (t + 1)), (5, .int (nI k)), (6, .int (nI iw)), (7, .int (nI ic)), (8, .int (nI mo)), (9, .int (nI ot)), (12, .int (m_kept 3 ic 1 mo G G).1), (13, .int (m_months 3 mo G).1), (14, .int bv)]) (hP : va_P D vwCl (rl lo n w) H) (hS : va_S (fun q : Nat => lo ≤ q) H0 H locs)
    (kk : ∀ (H : Heap) (locs : List Loc) (ls : Array Slot) (w : Nat → va_E) (T T2 : Mem), LI cy w A A2 lo n t o b d d2 wo wr wo2 wr2 G T T2 P → lv_has ls 17 [(0, .ref b), (1, .int (nI ti)), (2, .ref t), (3, .ref o), (4, .ref (t + 1)), (5, .int (nI k)), (6, .int (nI iw)), (7, .int (nI ic)), (8, .int (nI mo)), (9, .int (nI ot)), (12, .int (m_kept 3 ic 1 mo G G).1), (13, .int (m_months 3 mo G).1), (14, .int bv)] → va_P D vwCl (rl lo n w) H → va_S (fun q : Nat => lo ≤ q) H0 H locs → W p l e room_1 s m #[Value.ref b] below meth c H locs cells slots Q (F0 m 413 ls [])) : W p l e room_1 s m #[Value.ref b] below meth c H locs cells slots Q (F0 m 307 ls []) := by
  obtain ⟨hx, hb, hml, hown, hts, hKI, hL⟩ := id hC
  have hK : KK D cy s := hKI.1
  have htb := hI.1.tb
  have hob := hI.2.1.tb
  have hG := hI.g
  refine lv_iload hx hb dL_law_307 (lv_at hl 12 rfl) ?_
  rcases hbv with ⟨hp, rfl⟩ | ⟨hp, hbv⟩
  · refine lv_if_lt (tgt := 413) hx hb dL_law_309 (by decide) (fun _ => ?_) (fun h => absurd (by decide) h)
    exact kk H locs ls w T T2 hI hl hP hS
  · obtain ⟨bb, hb1, hb2, hb3⟩ := best_law (T := G) (w := iw) (k := mo) hW hG (by omega) (by omega) (by omega)
    have hbb : bv = nI bb := hbv.trans hb2
    subst hbb
    obtain ⟨q1, q2, q3⟩ := hb3 ot hot
    rw [would_eq hG] at q1
    refine lv_if_lt (tgt := 413) hx hb dL_law_309 (by decide) (fun h => absurd ((nI_ltI (a := bb) (b := 0) (by omega) (by omega)).mp h) (by omega)) (fun _ => ?_)
    refine lv_iload hx hb dL_law_312 (lv_at hl 5 rfl) ?_
    refine lv_iconst (v := 2) hx hb dL_law_314 (by decide) ?_
    refine lv_irem hx hb dL_law_315 (by decide) ?_
    have e3 : nI k - nI k / 2 * 2 = nI (k % 2) := rem_nI (d := k) (k := 2) (by omega) (by omega) (by omega)
    rw [e3]
    by_cases h3 : k % 2 = 0
    · rw [h3]
      refine lv_if_ne (tgt := 413) hx hb dL_law_316 (by decide) (fun h => absurd rfl h) (fun _ => ?_)
      have hgb : GI 3 (u2 G (37 + 2 * iw) 2 (nI bb)) := hG.u (by omega)
      have hgo : GI 3 (u2 G (37 + 2 * iw) 2 (nI ot)) := hG.u (by omega)
      refine lv_aload_n hx hb dL_law_319 rfl (lv_at hl 3 rfl) ?_
      refine x_get (ref := RX7) (C := RX7) (T := TX7) (N := 13) (ci := 7) (v := .ref (o + 1)) hx hb hts inlX7 hown hK.1 hP (by omega) (by omega) hI.2.1.obj rfl 0 (by decide) (hts (.fieldLink RL 14 "PoreFieldLaw$Told" "m" "LPoreField;") (by decide +kernel)) (fun _ h9 => h9) rfl dL_law_320 ?_
      refine lv_iload hx hb dL_law_323 (lv_at hl 6 rfl) ?_
      refine lv_iload hx hb dL_law_325 (lv_at hl 12 rfl) ?_
      have hP := TW.to hI.2.1.pf hP
      refine x_calli (va_runV (As := [.int (nI iw), .int (nI bb)]) (rest := []) ⟨hx, hb, hml, hown, hts⟩ (c_X6_choke l D cy lo n w (o + 1) G T2 P (by omega) (by omega) 3 hG iw hiw (nI bb) ((nI_leI (a := 0) (b := bb) (by omega) (by omega)).mpr (by omega)) ((nI_leI (a := bb) (b := 9) (by omega) (by omega)).mpr (by omega)) hp) (cwV 2 hts gL_law_X6_choke rfl rfl rfl (by decide +kernel) ⟨Nat.le_of_ble_eq_true rfl, Nat.le_of_ble_eq_true rfl⟩) (preV hP hK (x_recv (ci := 6) (q := (RX6, TX6, 11)) hK.1 hP (by omega) (by omega) rfl ((gw_out (by omega)).trans ((gw_out (by omega)).trans hw_0)))) rfl rfl hl.1 rfl (lv_room (Nat.le_of_ble_eq_true rfl)) dL_law_327 ⟨by show cells + 0 ≤ 789567; omega, by show slots + 0 ≤ 6732998; omega⟩) hS (fun H locs hP hS => ?_)
      have hP : va_P D vwCl (rl lo n (pw cy w (o + 1) (u2 G (37 + 2 * iw) 2 (nI bb)) T2 P)) H := hP
      have hTt := hI.tAt (G' := (u2 G (37 + 2 * iw) 2 (nI bb))) (T' := T2) (P' := P)
      refine lv_pop hx hb dL_law_330 rfl ?_
      refine lv_aload_n hx hb dL_law_331 rfl (lv_at hl 3 rfl) ?_
      refine x_get (ref := RX7) (C := RX7) (T := TX7) (N := 13) (ci := 7) (v := .ref (o + 1)) hx hb hts inlX7 hown hK.1 hP (by omega) (by omega) ((pw_out (by omega)).trans hI.2.1.obj) rfl 0 (by decide) (hts (.fieldLink RL 14 "PoreFieldLaw$Told" "m" "LPoreField;") (by decide +kernel)) (fun _ h9 => h9) rfl dL_law_332 ?_
      refine lv_iload hx hb dL_law_335 (lv_at hl 8 rfl) ?_
      refine x_calli (va_runV (As := [.int (nI mo)]) (rest := []) ⟨hx, hb, hml, hown, hts⟩ (c_X6_wouldGive l D cy lo n w (o + 1) (u2 G (37 + 2 * iw) 2 (nI bb)) T2 P (by omega) (by omega) 3 hgb mo hm1 (by omega)) (cwV 1 hts gL_law_X6_wouldGive rfl rfl rfl (by decide +kernel) ⟨Nat.le_of_ble_eq_true rfl, Nat.le_of_ble_eq_true rfl⟩) (preV hP hK (x_recv (ci := 6) (q := (RX6, TX6, 11)) hK.1 hP (by omega) (by omega) rfl ((gw_out (by omega)).trans ((gw_out (by omega)).trans hw_0)))) rfl rfl hl.1 rfl (lv_room (Nat.le_of_ble_eq_true rfl)) dL_law_337 ⟨by show cells + 0 ≤ 789567; omega, by show slots + 0 ≤ 6732998; omega⟩) hS (fun H locs hP hS => ?_)
      generalize hgTc : (m_would 3 mo (u2 G (37 + 2 * iw) 2 (nI bb)) T2).2 = Tc at hP
      have hP : va_P D vwCl (rl lo n (pw cy w (o + 1) (u2 G (37 + 2 * iw) 2 (nI bb)) Tc P)) H := hP
      rw [would_eq hgb]
      rw [show (m_months 3 mo (u2 G (37 + 2 * iw) 2 (nI bb))).1 = vCh 3 iw mo G (nI bb) from rfl]
      refine lv_istore (lv' := [(15, .int (vCh 3 iw mo G (nI bb))), (0, .ref b), (1, .int (nI ti)), (2, .ref t), (3, .ref o), (4, .ref (t + 1)), (5, .int (nI k)), (6, .int (nI iw)), (7, .int (nI ic)), (8, .int (nI mo)), (9, .int (nI ot)), (12, .int (m_kept 3 ic 1 mo G G).1), (13, .int (m_months 3 mo G).1), (14, .int (nI bb))]) hx hb dL_law_340 hl (by decide) rfl (fun ls hl => ?_)
      refine lv_aload_n hx hb dL_law_342 rfl (lv_at hl 4 rfl) ?_
      refine x_get (ref := RX7) (C := RX7) (T := TX7) (N := 13) (ci := 7) (v := .ref (o + 1)) hx hb hts inlX7 hown hK.1 hP (by omega) (by omega) ((pw_out (by omega)).trans hI.2.1.obj) rfl 0 (by decide) (hts (.fieldLink RL 14 "PoreFieldLaw$Told" "m" "LPoreField;") (by decide +kernel)) (fun _ h9 => h9) rfl dL_law_343 ?_
      refine lv_iload hx hb dL_law_346 (lv_at hl 7 rfl) ?_
      refine lv_iload hx hb dL_law_348 (lv_at hl 10 rfl) ?_
      refine x_calli (va_runV (As := [.int (nI iw), .int (nI ot)]) (rest := []) ⟨hx, hb, hml, hown, hts⟩ (c_X6_choke l D cy lo n w (o + 1) (u2 G (37 + 2 * iw) 2 (nI bb)) Tc P (by omega) (by omega) 3 hgb iw hiw (nI ot) ((nI_leI (a := 0) (b := ot) (by omega) (by omega)).mpr (by omega)) ((nI_leI (a := ot) (b := 9) (by omega) (by omega)).mpr (by omega)) hp) (cwV 2 hts gL_law_X6_choke rfl rfl rfl (by decide +kernel) ⟨Nat.le_of_ble_eq_true rfl, Nat.le_of_ble_eq_true rfl⟩) (preV hP hK (x_recv (ci := 6) (q := (RX6, TX6, 11)) hK.1 hP (by omega) (by omega) rfl ((gw_out (by omega)).trans ((gw_out (by omega)).trans hw_0)))) rfl rfl hl.1 rfl (lv_room (Nat.le_of_ble_eq_true rfl)) dL_law_350 ⟨by show cells + 0 ≤ 789567; omega, by show slots + 0 ≤ 6732998; omega⟩) hS (fun H locs hP hS => ?_)
      have hP : va_P D vwCl (rl lo n (pw cy w (o + 1) (u2 (u2 G (37 + 2 * iw) 2 (nI bb)) (37 + 2 * iw) 2 (nI ot)) Tc P)) H := hP
      rw [u2_u2] at hP
      refine lv_pop hx hb dL_law_353 rfl ?_
      refine lv_aload_n hx hb dL_law_354 rfl (lv_at hl 4 rfl) ?_
      refine x_get (ref := RX7) (C := RX7) (T := TX7) (N := 13) (ci := 7) (v := .ref (o + 1)) hx hb hts inlX7 hown hK.1 hP (by omega) (by omega) ((pw_out (by omega)).trans hI.2.1.obj) rfl 0 (by decide) (hts (.fieldLink RL 14 "PoreFieldLaw$Told" "m" "LPoreField;") (by decide +kernel)) (fun _ h9 => h9) rfl dL_law_355 ?_
      refine lv_iload hx hb dL_law_358 (lv_at hl 9 rfl) ?_
      refine x_calli (va_runV (As := [.int (nI mo)]) (rest := []) ⟨hx, hb, hml, hown, hts⟩ (c_X6_wouldGive l D cy lo n w (o + 1) (u2 G (37 + 2 * iw) 2 (nI ot)) Tc P (by omega) (by omega) 3 hgo mo hm1 (by omega)) (cwV 1 hts gL_law_X6_wouldGive rfl rfl rfl (by decide +kernel) ⟨Nat.le_of_ble_eq_true rfl, Nat.le_of_ble_eq_true rfl⟩) (preV hP hK (x_recv (ci := 6) (q := (RX6, TX6, 11)) hK.1 hP (by omega) (by omega) rfl ((gw_out (by omega)).trans ((gw_out (by omega)).trans hw_0)))) rfl rfl hl.1 rfl (lv_room (Nat.le_of_ble_eq_true rfl)) dL_law_360 ⟨by show cells + 0 ≤ 789567; omega, by show slots + 0 ≤ 6732998; omega⟩) hS (fun H locs hP hS => ?_)
      generalize hgTd : (m_would 3 mo (u2 G (37 + 2 * iw) 2 (nI ot)) Tc).2 = Td at hP
      have hP : va_P D vwCl (rl lo n (pw cy w (o + 1) (u2 G (37 + 2 * iw) 2 (nI ot)) Td P)) H := hP
      rw [would_eq hgo]
      rw [show (m_months 3 mo (u2 G (37 + 2 * iw) 2 (nI ot))).1 = vCh 3 iw mo G (nI ot) from rfl]
      refine lv_istore (lv' := [(16, .int (vCh 3 iw mo G (nI ot))), (15, .int (vCh 3 iw mo G (nI bb))), (0, .ref b), (1, .int (nI ti)), (2, .ref t), (3, .ref o), (4, .ref (t + 1)), (5, .int (nI k)), (6, .int (nI iw)), (7, .int (nI ic)), (8, .int (nI mo)), (9, .int (nI ot)), (12, .int (m_kept 3 ic 1 mo G G).1), (13, .int (m_months 3 mo G).1), (14, .int (nI bb))]) hx hb dL_law_363 hl (by decide) rfl (fun ls hl => ?_)
      refine lv_aload_n hx hb dL_law_365 rfl (lv_at hl 5 rfl) ?_
      refine x_get (ref := RX7) (C := RX7) (T := TX7) (N := 13) (ci := 7) (v := .ref (o + 1)) hx hb hts inlX7 hown hK.1 hP (by omega) (by omega) ((pw_out (by omega)).trans hI.2.1.obj) rfl 0 (by decide) (hts (.fieldLink RL 14 "PoreFieldLaw$Told" "m" "LPoreField;") (by decide +kernel)) (fun _ h9 => h9) rfl dL_law_366 ?_
      refine lv_iload hx hb dL_law_369 (lv_at hl 8 rfl) ?_
      refine lv_aload hx hb dL_law_371 (lv_at hl 6 rfl) ?_
      refine lv_iload hx hb dL_law_373 (lv_at hl 8 rfl) ?_
      refine lv_iconst (v := 2) hx hb dL_law_375 (by decide) ?_
      have hTt := hI.tAt (G' := (u2 G (37 + 2 * iw) 2 (nI ot))) (T' := Td) (P' := P)
      refine x_gen hP (fun v5 ev5 hP => ?_)
      have hTt5 : TW cy v5 A lo n t b d wo wr 3 G T P := by rw [ev5]; exact hTt
      have hP := TW.to hTt5.pf hP
      refine x_calli (va_runV (As := [.int (nI iw), .int 2]) (rest := [.int (nI iw), .ref (o + 1)]) ⟨hx, hb, hml, hown, hts⟩ (c_X6_ofWell_2 l D cy lo n v5 (t + 1) G T P (by omega) (by omega) 3 hG iw hiw) (cwV 2 hts gL_law_X6_ofWell rfl rfl rfl (by decide +kernel) ⟨Nat.le_of_ble_eq_true rfl, Nat.le_of_ble_eq_true rfl⟩) (preV hP hK (x_recv (ci := 6) (q := (RX6, TX6, 11)) hK.1 hP (by omega) (by omega) rfl ((gw_out (by omega)).trans ((gw_out (by omega)).trans hw_0)))) rfl rfl hl.1 rfl (lv_room (Nat.le_of_ble_eq_true rfl)) dL_law_376 ⟨by show cells + 0 ≤ 789567; omega, by show slots + 0 ≤ 6732998; omega⟩) hS (fun H locs hP hS => ?_)
      have hP : va_P D vwCl (rl lo n (pw cy v5 (t + 1) G T P)) H := hP
      rw [hTt5.pf, ev5] at hP
      rw [show m_ofWell G P iw 2 = G (37 + 2 * iw) 2 from rfl]
      have hc9 := hW.2.1.2.1 iw (by omega)
      have n9 : (9 : Int32).toInt = 9 := by decide
      refine x_calli (va_runV (As := [.int (nI iw), .int (G (37 + 2 * iw) 2)]) (rest := []) ⟨hx, hb, hml, hown, hts⟩ (c_X6_choke l D cy lo n w (o + 1) (u2 G (37 + 2 * iw) 2 (nI ot)) Td P (by omega) (by omega) 3 hgo iw hiw (G (37 + 2 * iw) 2) (Int32.le_iff_toInt_le.mpr (by rw [z32]; exact hc9.1)) (Int32.le_iff_toInt_le.mpr (by rw [n9]; exact hc9.2)) hp) (cwV 2 hts gL_law_X6_choke rfl rfl rfl (by decide +kernel) ⟨Nat.le_of_ble_eq_true rfl, Nat.le_of_ble_eq_true rfl⟩) (preV hP hK (x_recv (ci := 6) (q := (RX6, TX6, 11)) hK.1 hP (by omega) (by omega) rfl ((gw_out (by omega)).trans ((gw_out (by omega)).trans hw_0)))) rfl rfl hl.1 rfl (lv_room (Nat.le_of_ble_eq_true rfl)) dL_law_379 ⟨by show cells + 0 ≤ 789567; omega, by show slots + 0 ≤ 6732998; omega⟩) hS (fun H locs hP hS => ?_)
      have hP : va_P D vwCl (rl lo n (pw cy w (o + 1) (u2 (u2 G (37 + 2 * iw) 2 (nI ot)) (37 + 2 * iw) 2 (G (37 + 2 * iw) 2)) Td P)) H := hP
      rw [u2_u2, u2_id] at hP
      refine lv_pop hx hb dL_law_382 rfl ?_
      refine lv_iload hx hb dL_law_383 (lv_at hl 1 rfl) ?_
      refine lv_iload hx hb dL_law_385 (lv_at hl 13 rfl) ?_
      refine lv_icmp_lt (tgt := 411) hx hb dL_law_387 (by decide) (fun h => absurd h q1) (fun _ => ?_)
      refine lv_iload hx hb dL_law_390 (lv_at hl 0 rfl) ?_
      refine lv_iload hx hb dL_law_392 (lv_at hl 1 rfl) ?_
      refine lv_icmp_gt (tgt := 411) hx hb dL_law_394 (by decide) (fun h => absurd h q2) (fun _ => ?_)
      refine lv_iload hx hb dL_law_397 (lv_at hl 0 rfl) ?_
      refine lv_iload hx hb dL_law_399 (lv_at hl 1 rfl) ?_
      refine lv_icmp_ne (tgt := 413) hx hb dL_law_401 (by decide) (fun _ => ?_) (fun h => ?_)
      · exact kk H locs ls _ T Td hI.askO (lv_sub hl [2, 3, 4, 5, 6, 7, 8, 9, 10, 11, 12, 13, 14] rfl) hP hS
      · refine lv_iload hx hb dL_law_404 (lv_at hl 11 rfl) ?_
        refine lv_iload hx hb dL_law_406 (lv_at hl 14 rfl) ?_
        have hge : bb ≤ ot := Nat.not_lt.mp (fun r => q3 h ((nI_ltI (a := ot) (b := bb) (by omega) (by omega)).mpr r))
        refine lv_icmp_ge (tgt := 413) hx hb dL_law_408 (by decide) (fun _ => ?_) (fun r => absurd ((nI_leI (a := bb) (b := ot) (by omega) (by omega)).mpr hge) r)
        exact kk H locs ls _ T Td hI.askO (lv_sub hl [2, 3, 4, 5, 6, 7, 8, 9, 10, 11, 12, 13, 14] rfl) hP hS
    · refine lv_if_ne (tgt := 413) hx hb dL_law_316 (by decide) (fun _ => ?_) (fun h => absurd ((nI_eq (a := k % 2) (b := 0) (by omega) (by omega)).mp h) h3)
      exact kk H locs ls w T T2 hI hl hP hS
