/-! the law: stretch 2 -/
set_option maxRecDepth 100000 in
set_option maxHeartbeats 1000000 in
/-- what is asked changes nothing -/
theorem lw_asks {p : Program} {l : Launch} {e : Env} {s : State} {m : MethodId} {below : List Frame} {meth : Method} {c : Code} {Q : State → Prop} {D : va_G} {cy : Nat → ClassId} {b L : Nat} {xs : Nat → Int32} (hC : LC D cy p s m c b L) {H0 H : Heap} {locs : List Loc} {ls : Array Slot} {cells slots : Nat} (hce : cells ≤ 700000) (hsl : slots ≤ 6000000) {lo n : Nat} {w : Nat → va_E} (hX : va_X b L xs s H0) (hbl : b < lo) {A A2 : Nat → Prop} {t o d wo wo2 ti k : Nat} {wr wr2 : Nat → Nat} {G T T2 P : Mem} {d2 iw ic mo ot : Nat} (hiw : iw < 3) (hic : ic < 16) (hnb : ¬ m_nb ic 1 = -1) (hm1 : 1 ≤ mo) (hm4 : mo ≤ 4) (hot : ot < 10) (hI : LI cy w A A2 lo n t o b d d2 wo wr wo2 wr2 G T T2 P) (hl : lv_has ls 17 [(0, .ref b), (1, .int (nI ti)), (2, .ref t), (3, .ref o), (4, .ref (t + 1)), (5, .int (nI k)), (6, .int (nI iw)), (7, .int (nI ic)), (8, .int (nI mo)), (9, .int (nI ot))]) (hP : va_P D vwCl (rl lo n w) H) (hS : va_S (fun q : Nat => lo ≤ q) H0 H locs)
    (kk : ∀ (H : Heap) (locs : List Loc) (ls : Array Slot) (w : Nat → va_E) (T T2 : Mem) (bv : Int32), ((P (103 + 2 * iw) 0 = 1 ∧ bv = -1) ∨ (P (103 + 2 * iw) 0 = 0 ∧ bv = (m_best 3 iw mo G G 10).1.1)) → LI cy w A A2 lo n t o b d d2 wo wr wo2 wr2 G T T2 P → lv_has ls 17 [(0, .ref b), (1, .int (nI ti)), (2, .ref t), (3, .ref o), (4, .ref (t + 1)), (5, .int (nI k)), (6, .int (nI iw)), (7, .int (nI ic)), (8, .int (nI mo)), (9, .int (nI ot)), (12, .int (m_kept 3 ic 1 mo G G).1), (13, .int (m_months 3 mo G).1), (14, .int bv)] → va_P D vwCl (rl lo n w) H → va_S (fun q : Nat => lo ≤ q) H0 H locs → W p l e room_1 s m #[Value.ref b] below meth c H locs cells slots Q (F0 m 217 ls [])) : W p l e room_1 s m #[Value.ref b] below meth c H locs cells slots Q (F0 m 136 ls []) := by
  obtain ⟨hx, hb, hml, hown, hts, hKI, hL⟩ := id hC
  have hK : KK D cy s := hKI.1
  have htb := hI.1.tb
  have hob := hI.2.1.tb
  have hG := hI.g
  refine lv_aload hx hb dL_law_136 (lv_at hl 4 rfl) ?_
  have hP := TW.to hI.1.pf hP
  refine x_calll (va_runV (As := []) (rest := []) ⟨hx, hb, hml, hown, hts⟩ (c_X6_digest l D cy lo n w (t + 1) G T P (by omega) (by omega) 3 hG) (cwV 0 hts gL_law_X6_digest rfl rfl rfl (by decide +kernel) ⟨Nat.le_of_ble_eq_true rfl, Nat.le_of_ble_eq_true rfl⟩) (preV hP hK (x_recv (ci := 6) (q := (RX6, TX6, 11)) hK.1 hP (by omega) (by omega) rfl ((gw_out (by omega)).trans ((gw_out (by omega)).trans hw_0)))) rfl rfl hl.1 rfl (lv_room (Nat.le_of_ble_eq_true rfl)) dL_law_138 ⟨by show cells + 0 ≤ 789567; omega, by show slots + 0 ≤ 6732998; omega⟩) hS (fun H locs hP hS => ?_)
  have hI := hI.askT (T' := (m_digest 3 G T P).2)
  generalize hTy0 : (m_digest 3 G T P).2 = Ty0 at hP hI
  have hP : va_P D vwCl (rl lo n (pw cy w (t + 1) G Ty0 P)) H := hP
  refine x_gen hP (fun y0 ey0 hP => ?_)
  rw [← ey0] at hI
  rw [digest_eq (T' := G) hG]
  refine lv_lstore (lv' := [(10, .long ((m_digest 3 G G P).1)), (0, .ref b), (1, .int (nI ti)), (2, .ref t), (3, .ref o), (4, .ref (t + 1)), (5, .int (nI k)), (6, .int (nI iw)), (7, .int (nI ic)), (8, .int (nI mo)), (9, .int (nI ot))]) hx hb dL_law_141 hl (by decide) rfl (fun ls hl => ?_)
  refine lv_aload hx hb dL_law_143 (lv_at hl 5 rfl) ?_
  refine lv_iload hx hb dL_law_145 (lv_at hl 8 rfl) ?_
  refine lv_iconst (v := 1) hx hb dL_law_147 (by decide) ?_
  refine lv_iload hx hb dL_law_148 (lv_at hl 9 rfl) ?_
  have hP := TW.to hI.1.pf hP
  refine x_calli (va_runV (As := [.int (nI ic), .int 1, .int (nI mo)]) (rest := []) ⟨hx, hb, hml, hown, hts⟩ (c_X6_keptBack l D cy lo n y0 (t + 1) G Ty0 P (by omega) (by omega) 3 hG ic hic 1 mo hm1 (by omega) hnb) (cwV 3 hts gL_law_X6_keptBack rfl rfl rfl (by decide +kernel) ⟨Nat.le_of_ble_eq_true rfl, Nat.le_of_ble_eq_true rfl⟩) (preV hP hK (x_recv (ci := 6) (q := (RX6, TX6, 11)) hK.1 hP (by omega) (by omega) rfl ((gw_out (by omega)).trans ((gw_out (by omega)).trans hw_0)))) rfl rfl hl.1 rfl (lv_room (Nat.le_of_ble_eq_true rfl)) dL_law_150 ⟨by show cells + 0 ≤ 789567; omega, by show slots + 0 ≤ 6732998; omega⟩) hS (fun H locs hP hS => ?_)
  have hI := hI.askT (T' := (m_kept 3 ic 1 mo G Ty0).2)
  generalize hTy1 : (m_kept 3 ic 1 mo G Ty0).2 = Ty1 at hP hI
  have hP : va_P D vwCl (rl lo n (pw cy y0 (t + 1) G Ty1 P)) H := hP
  refine x_gen hP (fun y1 ey1 hP => ?_)
  rw [← ey1] at hI
  rw [kept_eq (T' := G) hic hG]
  refine lv_istore (lv' := [(12, .int (m_kept 3 ic 1 mo G G).1), (10, .long ((m_digest 3 G G P).1)), (0, .ref b), (1, .int (nI ti)), (2, .ref t), (3, .ref o), (4, .ref (t + 1)), (5, .int (nI k)), (6, .int (nI iw)), (7, .int (nI ic)), (8, .int (nI mo)), (9, .int (nI ot))]) hx hb dL_law_153 hl (by decide) rfl (fun ls hl => ?_)
  refine lv_aload hx hb dL_law_155 (lv_at hl 6 rfl) ?_
  refine lv_iload hx hb dL_law_157 (lv_at hl 10 rfl) ?_
  have hP := TW.to hI.1.pf hP
  refine x_calli (va_runV (As := [.int (nI mo)]) (rest := []) ⟨hx, hb, hml, hown, hts⟩ (c_X6_wouldGive l D cy lo n y1 (t + 1) G Ty1 P (by omega) (by omega) 3 hG mo hm1 (by omega)) (cwV 1 hts gL_law_X6_wouldGive rfl rfl rfl (by decide +kernel) ⟨Nat.le_of_ble_eq_true rfl, Nat.le_of_ble_eq_true rfl⟩) (preV hP hK (x_recv (ci := 6) (q := (RX6, TX6, 11)) hK.1 hP (by omega) (by omega) rfl ((gw_out (by omega)).trans ((gw_out (by omega)).trans hw_0)))) rfl rfl hl.1 rfl (lv_room (Nat.le_of_ble_eq_true rfl)) dL_law_159 ⟨by show cells + 0 ≤ 789567; omega, by show slots + 0 ≤ 6732998; omega⟩) hS (fun H locs hP hS => ?_)
  have hI := hI.askT (T' := (m_would 3 mo G Ty1).2)
  generalize hTy2 : (m_would 3 mo G Ty1).2 = Ty2 at hP hI
  have hP : va_P D vwCl (rl lo n (pw cy y1 (t + 1) G Ty2 P)) H := hP
  refine x_gen hP (fun y2 ey2 hP => ?_)
  rw [← ey2] at hI
  rw [would_eq hG]
  refine lv_istore (lv' := [(13, .int (m_months 3 mo G).1), (12, .int (m_kept 3 ic 1 mo G G).1), (10, .long ((m_digest 3 G G P).1)), (0, .ref b), (1, .int (nI ti)), (2, .ref t), (3, .ref o), (4, .ref (t + 1)), (5, .int (nI k)), (6, .int (nI iw)), (7, .int (nI ic)), (8, .int (nI mo)), (9, .int (nI ot))]) hx hb dL_law_162 hl (by decide) rfl (fun ls hl => ?_)
  have k189 : ∀ (bv : Int32) (H : Heap) (locs : List Loc) (v : Nat → va_E) (T : Mem), ((P (103 + 2 * iw) 0 = 1 ∧ bv = -1) ∨ (P (103 + 2 * iw) 0 = 0 ∧ bv = (m_best 3 iw mo G G 10).1.1)) → LI cy v A A2 lo n t o b d d2 wo wr wo2 wr2 G T T2 P → va_P D vwCl (rl lo n v) H → va_S (fun q : Nat => lo ≤ q) H0 H locs → W p l e room_1 s m #[Value.ref b] below meth c H locs cells slots Q (F0 m 189 ls [.int bv]) := by
    intro bv H locs v T hbv hI hP hS
    refine lv_istore (lv' := [(14, .int bv), (13, .int (m_months 3 mo G).1), (12, .int (m_kept 3 ic 1 mo G G).1), (10, .long ((m_digest 3 G G P).1)), (0, .ref b), (1, .int (nI ti)), (2, .ref t), (3, .ref o), (4, .ref (t + 1)), (5, .int (nI k)), (6, .int (nI iw)), (7, .int (nI ic)), (8, .int (nI mo)), (9, .int (nI ot))]) hx hb dL_law_189 hl (by decide) rfl (fun ls hl => ?_)
    refine lv_aload hx hb dL_law_191 (lv_at hl 8 rfl) ?_
    have hP := TW.to hI.1.pf hP
    refine x_calll (va_runV (As := []) (rest := []) ⟨hx, hb, hml, hown, hts⟩ (c_X6_digest l D cy lo n v (t + 1) G T P (by omega) (by omega) 3 hG) (cwV 0 hts gL_law_X6_digest rfl rfl rfl (by decide +kernel) ⟨Nat.le_of_ble_eq_true rfl, Nat.le_of_ble_eq_true rfl⟩) (preV hP hK (x_recv (ci := 6) (q := (RX6, TX6, 11)) hK.1 hP (by omega) (by omega) rfl ((gw_out (by omega)).trans ((gw_out (by omega)).trans hw_0)))) rfl rfl hl.1 rfl (lv_room (Nat.le_of_ble_eq_true rfl)) dL_law_193 ⟨by show cells + 0 ≤ 789567; omega, by show slots + 0 ≤ 6732998; omega⟩) hS (fun H locs hP hS => ?_)
    have hI := hI.askT (T' := (m_digest 3 G T P).2)
    generalize hTy20 : (m_digest 3 G T P).2 = Ty20 at hP hI
    have hP : va_P D vwCl (rl lo n (pw cy v (t + 1) G Ty20 P)) H := hP
    refine x_gen hP (fun y20 ey20 hP => ?_)
    rw [← ey20] at hI
    rw [digest_eq (T' := G) hG]
    refine lv_lload hx hb dL_law_196 (lv_at hl 3 rfl) ?_
    refine W.lcmp hx hb dL_law_198 ?_
    rw [cmp_rf]
    refine lv_if_ne (tgt := 215) hx hb dL_law_199 (by decide) (fun h => absurd rfl h) (fun _ => ?_)
    refine lv_aload_n hx hb dL_law_202 rfl (lv_at hl 7 rfl) ?_
    refine x_get (ref := RX7) (C := RX7) (T := TX7) (N := 13) (ci := 7) (v := .ref (o + 1)) hx hb hts inlX7 hown hK.1 hP (by omega) (by omega) hI.2.1.obj rfl 0 (by decide) (hts (.fieldLink RL 14 "PoreFieldLaw$Told" "m" "LPoreField;") (by decide +kernel)) (fun _ h9 => h9) rfl dL_law_203 ?_
    have hP := TW.to hI.2.1.pf hP
    refine x_calll (va_runV (As := []) (rest := []) ⟨hx, hb, hml, hown, hts⟩ (c_X6_digest l D cy lo n y20 (o + 1) G T2 P (by omega) (by omega) 3 hG) (cwV 0 hts gL_law_X6_digest rfl rfl rfl (by decide +kernel) ⟨Nat.le_of_ble_eq_true rfl, Nat.le_of_ble_eq_true rfl⟩) (preV hP hK (x_recv (ci := 6) (q := (RX6, TX6, 11)) hK.1 hP (by omega) (by omega) rfl ((gw_out (by omega)).trans ((gw_out (by omega)).trans hw_0)))) rfl rfl hl.1 rfl (lv_room (Nat.le_of_ble_eq_true rfl)) dL_law_206 ⟨by show cells + 0 ≤ 789567; omega, by show slots + 0 ≤ 6732998; omega⟩) hS (fun H locs hP hS => ?_)
    have hI := hI.askO (T' := (m_digest 3 G T2 P).2)
    rw [digest_eq (T' := G) hG]
    refine lv_lload hx hb dL_law_209 (lv_at hl 3 rfl) ?_
    refine W.lcmp hx hb dL_law_211 ?_
    rw [cmp_rf]
    refine lv_if_eq (tgt := 217) hx hb dL_law_212 (by decide) (fun _ => ?_) (fun h => absurd rfl h)
    exact kk H locs ls _ _ _ bv hbv hI (lv_sub hl [4, 5, 6, 7, 8, 9, 10, 11, 12, 13, 2, 1, 0] rfl) hP hS
  refine lv_aload hx hb dL_law_164 (lv_at hl 7 rfl) ?_
  refine lv_iload hx hb dL_law_166 (lv_at hl 9 rfl) ?_
  refine lv_iconst (v := 4) hx hb dL_law_168 (by decide) ?_
  have hP := TW.to hI.1.pf hP
  refine x_calli (va_runV (As := [.int (nI iw), .int 4]) (rest := []) ⟨hx, hb, hml, hown, hts⟩ (c_X6_ofWell_4 l D cy lo n y2 (t + 1) G Ty2 P (by omega) (by omega) 3 hG iw hiw) (cwV 2 hts gL_law_X6_ofWell rfl rfl rfl (by decide +kernel) ⟨Nat.le_of_ble_eq_true rfl, Nat.le_of_ble_eq_true rfl⟩) (preV hP hK (x_recv (ci := 6) (q := (RX6, TX6, 11)) hK.1 hP (by omega) (by omega) rfl ((gw_out (by omega)).trans ((gw_out (by omega)).trans hw_0)))) rfl rfl hl.1 rfl (lv_room (Nat.le_of_ble_eq_true rfl)) dL_law_169 ⟨by show cells + 0 ≤ 789567; omega, by show slots + 0 ≤ 6732998; omega⟩) hS (fun H locs hP hS => ?_)
  have hP : va_P D vwCl (rl lo n (pw cy y2 (t + 1) G Ty2 P)) H := hP
  rw [hI.1.pf] at hP
  refine lv_iconst (v := 1) hx hb dL_law_172 (by decide) ?_
  rcases (hI.pb iw hiw).1 with hp | hp
  · have e4 : m_ofWell G P iw 4 = 0 := if_pos hp
    rw [e4]
    refine lv_icmp_ne (tgt := 180) hx hb dL_law_173 (by decide) (fun _ => ?_) (fun h => absurd h (by decide))
    refine lv_aload hx hb dL_law_180 (lv_at hl 7 rfl) ?_
    refine lv_iload hx hb dL_law_182 (lv_at hl 9 rfl) ?_
    refine lv_iload hx hb dL_law_184 (lv_at hl 11 rfl) ?_
    have hP := TW.to hI.1.pf hP
    refine x_calli (va_runV (As := [.int (nI iw), .int (nI mo)]) (rest := []) ⟨hx, hb, hml, hown, hts⟩ (c_X6_bestChoke l D cy lo n y2 (t + 1) G Ty2 P (by omega) (by omega) 3 hG iw hiw mo hm1 (by omega) hp) (cwV 2 hts gL_law_X6_bestChoke rfl rfl rfl (by decide +kernel) ⟨Nat.le_of_ble_eq_true rfl, Nat.le_of_ble_eq_true rfl⟩) (preV hP hK (x_recv (ci := 6) (q := (RX6, TX6, 11)) hK.1 hP (by omega) (by omega) rfl ((gw_out (by omega)).trans ((gw_out (by omega)).trans hw_0)))) rfl rfl hl.1 rfl (lv_room (Nat.le_of_ble_eq_true rfl)) dL_law_186 ⟨by show cells + 0 ≤ 789567; omega, by show slots + 0 ≤ 6732998; omega⟩) hS (fun H locs hP hS => ?_)
    have hI := hI.askT (T' := (m_best 3 iw mo G Ty2 10).2)
    generalize hTy3 : (m_best 3 iw mo G Ty2 10).2 = Ty3 at hP hI
    have hP : va_P D vwCl (rl lo n (pw cy y2 (t + 1) G Ty3 P)) H := hP
    refine x_gen hP (fun y3 ey3 hP => ?_)
    rw [← ey3] at hI
    rw [best_eq (T' := G) hG]
    exact k189 _ H locs _ _ (Or.inr ⟨hp, rfl⟩) hI hP hS
  · have e4 : m_ofWell G P iw 4 = 1 := if_neg (by rw [hp]; decide)
    rw [e4]
    refine lv_icmp_ne (tgt := 180) hx hb dL_law_173 (by decide) (fun h => absurd rfl h) (fun _ => ?_)
    refine lv_iconst (v := -1) hx hb dL_law_176 (by decide) ?_
    refine lv_goto (tgt := 189) hx hb dL_law_177 (by decide) ?_
    exact k189 (-1) H locs _ _ (Or.inl ⟨hp, rfl⟩) hI hP hS
