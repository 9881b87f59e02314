/-! the law: stretch 5 -/
set_option maxRecDepth 100000 in
set_option maxHeartbeats 1000000 in
/-- a fault that is gone, and the months -/
theorem lw_pass {p : Program} {l : Launch} {e : Env} {s : State} {m : MethodId} {below : List Frame} {meth : Method} {c : Code} {Q : State → Prop} {D : va_G} {cy : Nat → ClassId} {b L : Nat} {xs : Nat → Int32} (hC : LC D cy p s m c b L) {H0 H : Heap} {locs : List Loc} {ls : Array Slot} {cells slots : Nat} (hce : cells ≤ 700000) (hsl : slots ≤ 6000000) {lo n : Nat} {w : Nat → va_E} (hX : va_X b L xs s H0) (hbl : b < lo) {A A2 : Nat → Prop} {t o d wo wo2 ti k : Nat} {wr wr2 : Nat → Nat} {G T T2 P : Mem} {d2 iw ic mo ot : Nat} {bv : Int32} (hic : ic < 16) (hnb : ¬ m_nb ic 1 = -1) (hm1 : 1 ≤ mo) (hm4 : mo ≤ 4) (hI : LI cy w A A2 lo n t o b d d2 wo wr wo2 wr2 G T T2 P) (hl : lv_has ls 17 [(0, .ref b), (1, .int (nI ti)), (2, .ref t), (3, .ref o), (4, .ref (t + 1)), (5, .int (nI k)), (6, .int (nI iw)), (7, .int (nI ic)), (8, .int (nI mo)), (9, .int (nI ot)), (12, .int (m_kept 3 ic 1 mo G G).1), (13, .int (m_months 3 mo G).1), (14, .int bv)]) (hP : va_P D vwCl (rl lo n w) H) (hS : va_S (fun q : Nat => lo ≤ q) H0 H locs)
    (kk : ∀ (H : Heap) (locs : List Loc) (ls : Array Slot) (v1 v5 : Nat → va_E) (T T2 Tx Ty : Mem), LI cy v1 A A2 lo n t o b d d2 wo wr wo2 wr2 G T T2 P → SR cy v1 v5 A t wr (m_pass 3 G P mo).1.2 Tx (m_pass 3 G P mo).2 0 → SR cy v1 v5 A2 o wr2 (m_pass 3 G P mo).1.2 Ty (m_pass 3 G P mo).2 0 → lv_has ls 17 [(0, .ref b), (1, .int (nI ti)), (2, .ref t), (3, .ref o), (4, .ref (t + 1)), (5, .int (nI k))] → va_P D vwCl (rl lo n v5) H → va_S (fun q : Nat => lo ≤ q) H0 H locs → W p l e room_1 s m #[Value.ref b] below meth c H locs cells slots Q (F0 m 512 ls [])) : W p l e room_1 s m #[Value.ref b] below meth c H locs cells slots Q (F0 m 413 ls []) := by
  obtain ⟨hx, hb, hml, hown, hts, hKI, hL⟩ := id hC
  have hK : KK D cy s := hKI.1
  have htb := hI.1.tb
  have hob := hI.2.1.tb
  have hG := hI.g
  have hgf : GI 3 (m_shut G ic 1 0) := hG.shut hic (Or.inl rfl)
  refine lv_aload_n hx hb dL_law_413 rfl (lv_at hl 3 rfl) ?_
  refine x_get (ref := RX7) (C := RX7) (T := TX7) (N := 13) (ci := 7) (v := .ref (o + 1)) hx hb hts inlX7 hown hK.1 hP (by omega) (by omega) hI.2.1.obj rfl 0 (by decide) (hts (.fieldLink RL 14 "PoreFieldLaw$Told" "m" "LPoreField;") (by decide +kernel)) (fun _ h9 => h9) rfl dL_law_414 ?_
  refine lv_iload hx hb dL_law_417 (lv_at hl 7 rfl) ?_
  refine lv_iconst (v := 1) hx hb dL_law_419 (by decide) ?_
  refine lv_iconst (v := 0) hx hb dL_law_420 (by decide) ?_
  have hP := TW.to hI.2.1.pf hP
  refine x_calli (va_runV (As := [.int (nI ic), .int 1, .int 0]) (rest := []) ⟨hx, hb, hml, hown, hts⟩ (c_X6_fault l D cy lo n w (o + 1) G T2 P (by omega) (by omega) 3 hG ic hic 1 0 (Or.inl rfl) hnb) (cwV 3 hts gL_law_X6_fault rfl rfl rfl (by decide +kernel) ⟨Nat.le_of_ble_eq_true rfl, Nat.le_of_ble_eq_true rfl⟩) (preV hP hK (x_recv (ci := 6) (q := (RX6, TX6, 11)) hK.1 hP (by omega) (by omega) rfl ((gw_out (by omega)).trans ((gw_out (by omega)).trans hw_0)))) rfl rfl hl.1 rfl (lv_room (Nat.le_of_ble_eq_true rfl)) dL_law_421 ⟨by show cells + 0 ≤ 789567; omega, by show slots + 0 ≤ 6732998; omega⟩) hS (fun H locs hP hS => ?_)
  have hP : va_P D vwCl (rl lo n (pw cy w (o + 1) (m_shut G ic 1 0) T2 P)) H := hP
  refine lv_istore (lv' := [(15, .int (m_isShut G ic 1)), (0, .ref b), (1, .int (nI ti)), (2, .ref t), (3, .ref o), (4, .ref (t + 1)), (5, .int (nI k)), (6, .int (nI iw)), (7, .int (nI ic)), (8, .int (nI mo)), (9, .int (nI ot)), (12, .int (m_kept 3 ic 1 mo G G).1), (13, .int (m_months 3 mo G).1), (14, .int bv)]) hx hb dL_law_424 hl (by decide) rfl (fun ls hl => ?_)
  refine lv_aload_n hx hb dL_law_426 rfl (lv_at hl 4 rfl) ?_
  refine x_get (ref := RX7) (C := RX7) (T := TX7) (N := 13) (ci := 7) (v := .ref (o + 1)) hx hb hts inlX7 hown hK.1 hP (by omega) (by omega) ((pw_out (by omega)).trans hI.2.1.obj) rfl 0 (by decide) (hts (.fieldLink RL 14 "PoreFieldLaw$Told" "m" "LPoreField;") (by decide +kernel)) (fun _ h9 => h9) rfl dL_law_427 ?_
  refine lv_iload hx hb dL_law_430 (lv_at hl 9 rfl) ?_
  refine x_calli (va_runV (As := [.int (nI mo)]) (rest := []) ⟨hx, hb, hml, hown, hts⟩ (c_X6_wouldGive l D cy lo n w (o + 1) (m_shut G ic 1 0) T2 P (by omega) (by omega) 3 hgf mo hm1 (by omega)) (cwV 1 hts gL_law_X6_wouldGive rfl rfl rfl (by decide +kernel) ⟨Nat.le_of_ble_eq_true rfl, Nat.le_of_ble_eq_true rfl⟩) (preV hP hK (x_recv (ci := 6) (q := (RX6, TX6, 11)) hK.1 hP (by omega) (by omega) rfl ((gw_out (by omega)).trans ((gw_out (by omega)).trans hw_0)))) rfl rfl hl.1 rfl (lv_room (Nat.le_of_ble_eq_true rfl)) dL_law_432 ⟨by show cells + 0 ≤ 789567; omega, by show slots + 0 ≤ 6732998; omega⟩) hS (fun H locs hP hS => ?_)
  generalize hgc : (m_would 3 mo (m_shut G ic 1 0) T2).2 = Tc at hP
  have hP : va_P D vwCl (rl lo n (pw cy w (o + 1) (m_shut G ic 1 0) Tc P)) H := hP
  have hkl := kept_law (nd := 3) (k := mo) (G := G) (b := 1) (T := G) (T' := T2) hic hG
  rw [would_eq (T := G) hG] at hkl
  refine lv_iload hx hb dL_law_435 (lv_at hl 12 rfl) ?_
  refine lv_iload hx hb dL_law_437 (lv_at hl 11 rfl) ?_
  refine lv_iadd hx hb dL_law_439 ?_
  refine lv_icmp_ne (tgt := 453) hx hb dL_law_440 (by decide) (fun h => absurd hkl h) (fun _ => ?_)
  have k455 : W p l e room_1 s m #[Value.ref b] below meth c H locs cells slots Q (F0 m 455 ls []) := by
    refine lv_aload_n hx hb dL_law_455 rfl (lv_at hl 4 rfl) ?_
    refine x_get (ref := RX7) (C := RX7) (T := TX7) (N := 13) (ci := 7) (v := .ref (o + 1)) hx hb hts inlX7 hown hK.1 hP (by omega) (by omega) ((pw_out (by omega)).trans hI.2.1.obj) rfl 0 (by decide) (hts (.fieldLink RL 14 "PoreFieldLaw$Told" "m" "LPoreField;") (by decide +kernel)) (fun _ h9 => h9) rfl dL_law_456 ?_
    refine lv_iload hx hb dL_law_459 (lv_at hl 8 rfl) ?_
    refine lv_iconst (v := 1) hx hb dL_law_461 (by decide) ?_
    refine lv_iload hx hb dL_law_462 (lv_at hl 0 rfl) ?_
    have hsh : m_isShut G ic 1 = 0 ∨ m_isShut G ic 1 = 1 := (hG.sh hic).1
    refine x_calli (va_runV (As := [.int (nI ic), .int 1, .int (m_isShut G ic 1)]) (rest := []) ⟨hx, hb, hml, hown, hts⟩ (c_X6_fault l D cy lo n w (o + 1) (m_shut G ic 1 0) Tc P (by omega) (by omega) 3 hgf ic hic 1 (m_isShut G ic 1) hsh hnb) (cwV 3 hts gL_law_X6_fault rfl rfl rfl (by decide +kernel) ⟨Nat.le_of_ble_eq_true rfl, Nat.le_of_ble_eq_true rfl⟩) (preV hP hK (x_recv (ci := 6) (q := (RX6, TX6, 11)) hK.1 hP (by omega) (by omega) rfl ((gw_out (by omega)).trans ((gw_out (by omega)).trans hw_0)))) rfl rfl hl.1 rfl (lv_room (Nat.le_of_ble_eq_true rfl)) dL_law_464 ⟨by show cells + 0 ≤ 789567; omega, by show slots + 0 ≤ 6732998; omega⟩) hS (fun H locs hP hS => ?_)
    have hP : va_P D vwCl (rl lo n (pw cy w (o + 1) (m_shut (m_shut G ic 1 0) ic 1 (m_isShut G ic 1)) Tc P)) H := hP
    rw [shut_shut, shut_id] at hP
    have hI := hI.askO (T' := Tc)
    refine lv_pop hx hb dL_law_467 rfl ?_
    refine x_gen hP (fun v1 ev1 hP => ?_)
    rw [← ev1] at hI
    refine lv_aload hx hb dL_law_468 (lv_at hl 5 rfl) ?_
    refine lv_iload hx hb dL_law_470 (lv_at hl 9 rfl) ?_
    have hP := TW.to hI.1.pf hP
    refine x_calli (va_runV (As := [.int (nI mo)]) (rest := []) ⟨hx, hb, hml, hown, hts⟩ (c_X6_pass l D cy lo n v1 (t + 1) G T P (by omega) (by omega) 3 hG mo hm1 (by omega)) (cwV 1 hts gL_law_X6_pass rfl rfl rfl (by decide +kernel) ⟨Nat.le_of_ble_eq_true rfl, Nat.le_of_ble_eq_true rfl⟩) (preV hP hK (x_recv (ci := 6) (q := (RX6, TX6, 11)) hK.1 hP (by omega) (by omega) rfl ((gw_out (by omega)).trans ((gw_out (by omega)).trans hw_0)))) rfl rfl hl.1 rfl (lv_room (Nat.le_of_ble_eq_true rfl)) dL_law_472 ⟨by show cells + 0 ≤ 789567; omega, by show slots + 0 ≤ 6732998; omega⟩) hS (fun H locs hP hS => ?_)
    have hpm : (m_pass 3 G P mo).1.1 = (m_months 3 mo G).1 := by rw [pass_months]
    generalize hGm : (m_pass 3 G P mo).1.2 = Gm at hP kk
    generalize hPm : (m_pass 3 G P mo).2 = Pm at hP kk
    have hP : va_P D vwCl (rl lo n (pw cy v1 (t + 1) Gm T Pm)) H := hP
    have hTo2 := hI.oAt (G' := Gm) (T' := T) (P' := Pm)
    rw [hpm]
    refine lv_iload hx hb dL_law_475 (lv_at hl 12 rfl) ?_
    refine lv_icmp_ne (tgt := 510) hx hb dL_law_477 (by decide) (fun h => absurd rfl h) (fun _ => ?_)
    refine x_gen hP (fun v2 ev2 hP => ?_)
    rw [← ev2] at hTo2
    refine lv_aload_n hx hb dL_law_480 rfl (lv_at hl 4 rfl) ?_
    refine x_get (ref := RX7) (C := RX7) (T := TX7) (N := 13) (ci := 7) (v := .ref (o + 1)) hx hb hts inlX7 hown hK.1 hP (by omega) (by omega) hTo2.obj rfl 0 (by decide) (hts (.fieldLink RL 14 "PoreFieldLaw$Told" "m" "LPoreField;") (by decide +kernel)) (fun _ h9 => h9) rfl dL_law_481 ?_
    refine lv_iload hx hb dL_law_484 (lv_at hl 9 rfl) ?_
    have hP := TW.to hTo2.pf hP
    refine x_calli (va_runV (As := [.int (nI mo)]) (rest := []) ⟨hx, hb, hml, hown, hts⟩ (c_X6_pass l D cy lo n v2 (o + 1) G Tc P (by omega) (by omega) 3 hG mo hm1 (by omega)) (cwV 1 hts gL_law_X6_pass rfl rfl rfl (by decide +kernel) ⟨Nat.le_of_ble_eq_true rfl, Nat.le_of_ble_eq_true rfl⟩) (preV hP hK (x_recv (ci := 6) (q := (RX6, TX6, 11)) hK.1 hP (by omega) (by omega) rfl ((gw_out (by omega)).trans ((gw_out (by omega)).trans hw_0)))) rfl rfl hl.1 rfl (lv_room (Nat.le_of_ble_eq_true rfl)) dL_law_486 ⟨by show cells + 0 ≤ 789567; omega, by show slots + 0 ≤ 6732998; omega⟩) hS (fun H locs hP hS => ?_)
    rw [hGm, hPm] at hP
    have hP : va_P D vwCl (rl lo n (pw cy v2 (o + 1) Gm Tc Pm)) H := hP
    rw [hpm]
    refine lv_iload hx hb dL_law_489 (lv_at hl 12 rfl) ?_
    refine lv_icmp_ne (tgt := 510) hx hb dL_law_491 (by decide) (fun h => absurd rfl h) (fun _ => ?_)
    have hgm : GI 3 Gm := by rw [← hGm]; exact gi_pass hG mo
    refine x_gen hP (fun v3 ev3 hP => ?_)
    have hap : t + 119 ≤ o ∨ o + 119 ≤ t := by
      rcases Nat.lt_or_ge t o with h | h
      · rcases Nat.lt_or_ge o (t + 157) with h2 | h2
        · exact absurd (hI.2.1.own o (by omega) (by omega)) (hI.2.2.1 o (hI.1.own o (by omega) (by omega)))
        · omega
      · rcases Nat.lt_or_ge t (o + 157) with h2 | h2
        · exact absurd (hI.2.1.own t (by omega) (by omega)) (hI.2.2.1 t (hI.1.own t (by omega) (by omega)))
        · omega
    have hpt : pw cy v3 (t + 1) Gm T Pm = v3 := pw_ext (by rw [ev2]; exact pw_pw : pw cy v2 (t + 1) Gm T Pm = v2) (fun a h1 h2 => by rw [ev3]; exact pw_out (by omega))
    have hpo : pw cy v3 (o + 1) Gm Tc Pm = v3 := by rw [ev3]; exact pw_pw
    have hv3 : ∀ a, (a < t + 1 ∨ t + 119 ≤ a) → (a < o + 1 ∨ o + 119 ≤ a) → v3 a = v1 a := fun a h1 h2 => by rw [ev3, pw_out (by omega), ev2, pw_out (by omega)]
    refine lv_aload hx hb dL_law_494 (lv_at hl 5 rfl) ?_
    have hP := TW.to hpt hP
    refine x_calll (va_runV (As := []) (rest := []) ⟨hx, hb, hml, hown, hts⟩ (c_X6_digest l D cy lo n v3 (t + 1) Gm T Pm (by omega) (by omega) 3 hgm) (cwV 0 hts gL_law_X6_digest rfl rfl rfl (by decide +kernel) ⟨Nat.le_of_ble_eq_true rfl, Nat.le_of_ble_eq_true rfl⟩) (preV hP hK (x_recv (ci := 6) (q := (RX6, TX6, 11)) hK.1 hP (by omega) (by omega) rfl ((gw_out (by omega)).trans ((gw_out (by omega)).trans hw_0)))) rfl rfl hl.1 rfl (lv_room (Nat.le_of_ble_eq_true rfl)) dL_law_496 ⟨by show cells + 0 ≤ 789567; omega, by show slots + 0 ≤ 6732998; omega⟩) hS (fun H locs hP hS => ?_)
    generalize hgt : (m_digest 3 Gm T Pm).2 = Tx at hP
    have hP : va_P D vwCl (rl lo n (pw cy v3 (t + 1) Gm Tx Pm)) H := hP
    refine x_gen hP (fun v4 ev4 hP => ?_)
    have hpo4 : pw cy v4 (o + 1) Gm Tc Pm = v4 := pw_ext hpo (fun a h1 h2 => by rw [ev4]; exact pw_out (by omega))
    have hpt4 : pw cy v4 (t + 1) Gm Tx Pm = v4 := by rw [ev4]; exact pw_pw
    have hv4 : ∀ a, (a < t + 1 ∨ t + 119 ≤ a) → (a < o + 1 ∨ o + 119 ≤ a) → v4 a = v1 a := fun a h1 h2 => by rw [ev4, pw_out (by omega)]; exact hv3 a h1 h2
    rw [digest_eq (T' := Gm) hgm]
    refine lv_aload_n hx hb dL_law_499 rfl (lv_at hl 4 rfl) ?_
    have hoA : v4 o = v1 o := hv4 o (by omega) (by omega)
    refine x_get (ref := RX7) (C := RX7) (T := TX7) (N := 13) (ci := 7) (v := .ref (o + 1)) hx hb hts inlX7 hown hK.1 hP (by omega) (by omega) (hoA.trans hI.2.1.obj) rfl 0 (by decide) (hts (.fieldLink RL 14 "PoreFieldLaw$Told" "m" "LPoreField;") (by decide +kernel)) (fun _ h9 => h9) rfl dL_law_500 ?_
    have hP := TW.to hpo4 hP
    refine x_calll (va_runV (As := []) (rest := [.long (m_digest 3 Gm Gm Pm).1]) ⟨hx, hb, hml, hown, hts⟩ (c_X6_digest l D cy lo n v4 (o + 1) Gm Tc Pm (by omega) (by omega) 3 hgm) (cwV 0 hts gL_law_X6_digest rfl rfl rfl (by decide +kernel) ⟨Nat.le_of_ble_eq_true rfl, Nat.le_of_ble_eq_true rfl⟩) (preV hP hK (x_recv (ci := 6) (q := (RX6, TX6, 11)) hK.1 hP (by omega) (by omega) rfl ((gw_out (by omega)).trans ((gw_out (by omega)).trans hw_0)))) rfl rfl hl.1 rfl (lv_room (Nat.le_of_ble_eq_true rfl)) dL_law_503 ⟨by show cells + 0 ≤ 789567; omega, by show slots + 0 ≤ 6732998; omega⟩) hS (fun H locs hP hS => ?_)
    generalize hgt2 : (m_digest 3 Gm Tc Pm).2 = Ty at hP
    have hP : va_P D vwCl (rl lo n (pw cy v4 (o + 1) Gm Ty Pm)) H := hP
    rw [digest_eq (T' := Gm) hgm]
    refine W.lcmp hx hb dL_law_506 ?_
    rw [cmp_rf]
    refine lv_if_eq (tgt := 512) hx hb dL_law_507 (by decide) (fun _ => ?_) (fun h => absurd rfl h)
    refine x_gen hP (fun v5 ev5 hP => ?_)
    have hpt5 : pw cy v5 (t + 1) Gm Tx Pm = v5 := pw_ext hpt4 (fun a h1 h2 => by rw [ev5]; exact pw_out (by omega))
    have hpo5 : pw cy v5 (o + 1) Gm Ty Pm = v5 := by rw [ev5]; exact pw_pw
    have hv5 : ∀ a, (a < t + 1 ∨ t + 119 ≤ a) → (a < o + 1 ∨ o + 119 ≤ a) → v5 a = v1 a := fun a h1 h2 => by rw [ev5, pw_out (by omega)]; exact hv4 a h1 h2
    have hnt : ∀ a, A a → (a < o + 1 ∨ o + 119 ≤ a) := fun a ha => by
      by_cases h : a < o + 1 ∨ o + 119 ≤ a
      · exact h
      · exact absurd (hI.2.1.own a (by omega) (by omega)) (hI.2.2.1 a ha)
    have hno : ∀ a, A2 a → (a < t + 1 ∨ t + 119 ≤ a) := fun a ha => by
      by_cases h : a < t + 1 ∨ t + 119 ≤ a
      · exact h
      · exact absurd (hI.1.own a (by omega) (by omega)) (hI.no ha)
    exact kk H locs ls v1 v5 T Tc Tx Ty hI (SR.start hI.1 hpt5 (fun a h1 h2 => hv5 a h2 (hnt a h1))) (SR.start hI.2.1 hpo5 (fun a h1 h2 => hv5 a (hno a h1) h2)) (lv_sub hl [1, 2, 3, 4, 5, 6] rfl) hP hS
  refine lv_iload hx hb dL_law_443 (lv_at hl 0 rfl) ?_
  rcases (hG.sh hic).1 with hsh | hsh
  · have e1 : m_isShut G ic 1 = 0 := hsh
    have e2 : (m_kept 3 ic 1 mo G G).1 = 0 := by unfold m_kept; rw [if_pos e1]
    refine lv_if_ne (tgt := 455) hx hb dL_law_445 (by decide) (fun h => absurd e1 h) (fun _ => ?_)
    refine lv_iload hx hb dL_law_448 (lv_at hl 11 rfl) ?_
    refine lv_if_eq (tgt := 455) hx hb dL_law_450 (by decide) (fun _ => ?_) (fun h => absurd e2 h)
    exact k455
  · have e1 : m_isShut G ic 1 = 1 := hsh
    refine lv_if_ne (tgt := 455) hx hb dL_law_445 (by decide) (fun _ => ?_) (fun h => absurd (e1.symm.trans h) (by decide))
    exact k455
