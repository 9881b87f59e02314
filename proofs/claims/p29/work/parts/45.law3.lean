/-! the law: stretch 3 -/
set_option maxRecDepth 100000 in
set_option maxHeartbeats 1000000 in
/-- what is booked -/
theorem lw_book {p : Program} {l : Launch} {e : Env} {s : State} {m : MethodId} {below : List Frame} {meth : Method} {c : Code} {Q : State → Prop} {D : va_G} {cy : Nat → ClassId} {b L : Nat} {xs : Nat → Int32} (hC : LC D cy p s m c b L) {H0 H : Heap} {locs : List Loc} {ls : Array Slot} {cells slots : Nat} (hce : cells ≤ 700000) (hsl : slots ≤ 6000000) {lo n : Nat} {w : Nat → va_E} (hX : va_X b L xs s H0) (hbl : b < lo) {A A2 : Nat → Prop} {t o d wo wo2 ti k : Nat} {wr wr2 : Nat → Nat} {G T T2 P : Mem} {d2 iw ic mo ot nb : Nat} {bv : Int32} (hk : k < 7) (hnb : nb ≤ 3) (h5 : P 101 5 = nI nb) (hI : LI cy w A A2 lo n t o b d d2 wo wr wo2 wr2 G T T2 P) (hl : lv_has ls 17 [(0, .ref b), (1, .int (nI ti)), (2, .ref t), (3, .ref o), (4, .ref (t + 1)), (5, .int (nI k)), (6, .int (nI iw)), (7, .int (nI ic)), (8, .int (nI mo)), (9, .int (nI ot)), (12, .int (m_kept 3 ic 1 mo G G).1), (13, .int (m_months 3 mo G).1), (14, .int bv)]) (hP : va_P D vwCl (rl lo n w) H) (hS : va_S (fun q : Nat => lo ≤ q) H0 H locs)
    (kk : ∀ (H : Heap) (locs : List Loc) (ls : Array Slot) (w : Nat → va_E) (T T2 P2 : Mem), (∃ nb, nb ≤ 3 ∧ P2 101 5 = nI nb) → (∀ i, P2 (103 + 2 * i) 0 = P (103 + 2 * i) 0) → LI cy w A A2 lo n t o b d d2 wo wr wo2 wr2 G T T2 P2 → lv_has ls 17 [(0, .ref b), (1, .int (nI ti)), (2, .ref t), (3, .ref o), (4, .ref (t + 1)), (5, .int (nI k)), (6, .int (nI iw)), (7, .int (nI ic)), (8, .int (nI mo)), (9, .int (nI ot)), (12, .int (m_kept 3 ic 1 mo G G).1), (13, .int (m_months 3 mo G).1), (14, .int bv)] → va_P D vwCl (rl lo n w) H → va_S (fun q : Nat => lo ≤ q) H0 H locs → W p l e room_1 s m #[Value.ref b] below meth c H locs cells slots Q (F0 m 307 ls [])) : W p l e room_1 s m #[Value.ref b] below meth c H locs cells slots Q (F0 m 217 ls []) := by
  obtain ⟨hx, hb, hml, hown, hts, hKI, hL⟩ := id hC
  have hK : KK D cy s := hKI.1
  have htb := hI.1.tb
  have hob := hI.2.1.tb
  have hG := hI.g
  refine lv_iload hx hb dL_law_217 (lv_at hl 5 rfl) ?_
  refine lv_iconst (v := 3) hx hb dL_law_219 (by decide) ?_
  refine lv_irem hx hb dL_law_220 (by decide) ?_
  have e3 : nI k - nI k / 3 * 3 = nI (k % 3) := rem_nI (d := k) (k := 3) (by omega) (by omega) (by omega)
  rw [e3]
  by_cases h3 : k % 3 = 0
  · rw [h3]
    refine lv_if_ne (tgt := 307) hx hb dL_law_221 (by decide) (fun h => absurd rfl h) (fun _ => ?_)
    have hP := TW.to hI.1.pf hP
    refine lv_aload hx hb dL_law_224 (lv_at hl 4 rfl) ?_
    refine lv_iconst (v := 0) hx hb dL_law_226 (by decide) ?_
    refine x_calli (va_runV (As := [.int 0]) (rest := []) ⟨hx, hb, hml, hown, hts⟩ (c_X6_booked_0 l D cy lo n w (t + 1) G T (P) (by omega) (by omega)) (cwV 1 hts gL_law_X6_booked rfl rfl rfl (by decide +kernel) ⟨Nat.le_of_ble_eq_true rfl, Nat.le_of_ble_eq_true rfl⟩) (preV hP hK (x_recv (ci := 6) (q := (RX6, TX6, 11)) hK.1 hP (by omega) (by omega) rfl ((gw_out (by omega)).trans ((gw_out (by omega)).trans hw_0)))) rfl rfl hl.1 rfl (lv_room (Nat.le_of_ble_eq_true rfl)) dL_law_227 ⟨by show cells + 0 ≤ 789567; omega, by show slots + 0 ≤ 6732998; omega⟩) hS (fun H locs hP hS => ?_)
    have hP : va_P D vwCl (rl lo n (pw cy w (t + 1) G T (P))) H := hP
    refine lv_istore (lv' := [(15, .int (P 101 0)), (0, .ref b), (1, .int (nI ti)), (2, .ref t), (3, .ref o), (4, .ref (t + 1)), (5, .int (nI k)), (6, .int (nI iw)), (7, .int (nI ic)), (8, .int (nI mo)), (9, .int (nI ot)), (12, .int (m_kept 3 ic 1 mo G G).1), (13, .int (m_months 3 mo G).1), (14, .int bv)]) hx hb dL_law_230 hl (by decide) rfl (fun ls hl => ?_)
    refine lv_aload hx hb dL_law_232 (lv_at hl 5 rfl) ?_
    refine x_calli (va_runV (As := []) (rest := []) ⟨hx, hb, hml, hown, hts⟩ (c_X6_book l D cy lo n w (t + 1) G T P (by omega) (by omega) 3 hG nb hnb h5) (cwV 0 hts gL_law_X6_book rfl rfl rfl (by decide +kernel) ⟨Nat.le_of_ble_eq_true rfl, Nat.le_of_ble_eq_true rfl⟩) (preV hP hK (x_recv (ci := 6) (q := (RX6, TX6, 11)) hK.1 hP (by omega) (by omega) rfl ((gw_out (by omega)).trans ((gw_out (by omega)).trans hw_0)))) rfl rfl hl.1 rfl (lv_room (Nat.le_of_ble_eq_true rfl)) dL_law_234 ⟨by show cells + 0 ≤ 789567; omega, by show slots + 0 ≤ 6732998; omega⟩) hS (fun H locs hP hS => ?_)
    rw [res_eq (k := 3) (T := T) (T' := G) hG] at hP ⊢
    rw [res_eq (k := nb) (T := (m_res 3 3 G T).2) (T' := G) hG] at hP
    generalize hTa : (m_res 3 nb G (m_res 3 3 G T).2).2 = Ta at hP
    have hP : va_P D vwCl (rl lo n (pw cy w (t + 1) G Ta (m_bookP 3 P ((m_res 3 3 G G).1) ((m_res 3 3 G G).1 - (m_res 3 nb G G).1)))) H := hP
    have hTt : TW cy (pw cy w (t + 1) G Ta (m_bookP 3 P ((m_res 3 3 G G).1) ((m_res 3 3 G G).1 - (m_res 3 nb G G).1))) A lo n t b d wo wr 3 G Ta (m_bookP 3 P ((m_res 3 3 G G).1) ((m_res 3 3 G G).1 - (m_res 3 nb G G).1)) := hI.1.fld rfl (fun _ _ => ⟨rfl, rfl⟩) (fun _ _ => ⟨rfl, rfl, rfl, book_k (by omega), book_k (by omega)⟩) (fun _ _ => rfl)
    have hTo := hI.oAt (G' := G) (T' := Ta) (P' := m_bookP 3 P ((m_res 3 3 G G).1) ((m_res 3 3 G G).1 - (m_res 3 nb G G).1))
    refine x_gen hP (fun v1 ev1 hP => ?_)
    rw [← ev1] at hTt hTo
    refine lv_istore (lv' := [(16, .int ((m_res 3 3 G G).1)), (15, .int (P 101 0)), (0, .ref b), (1, .int (nI ti)), (2, .ref t), (3, .ref o), (4, .ref (t + 1)), (5, .int (nI k)), (6, .int (nI iw)), (7, .int (nI ic)), (8, .int (nI mo)), (9, .int (nI ot)), (12, .int (m_kept 3 ic 1 mo G G).1), (13, .int (m_months 3 mo G).1), (14, .int bv)]) hx hb dL_law_237 hl (by decide) rfl (fun ls hl => ?_)
    refine lv_aload_n hx hb dL_law_239 rfl (lv_at hl 5 rfl) ?_
    refine x_get (ref := RX7) (C := RX7) (T := TX7) (N := 13) (ci := 7) (v := .ref (o + 1)) hx hb hts inlX7 hown hK.1 hP (by omega) (by omega) hTo.obj rfl 0 (by decide) (hts (.fieldLink RL 14 "PoreFieldLaw$Told" "m" "LPoreField;") (by decide +kernel)) (fun _ h9 => h9) rfl dL_law_240 ?_
    have hP := TW.to hTo.pf hP
    refine x_calli (va_runV (As := []) (rest := []) ⟨hx, hb, hml, hown, hts⟩ (c_X6_book l D cy lo n v1 (o + 1) G T2 P (by omega) (by omega) 3 hG nb hnb h5) (cwV 0 hts gL_law_X6_book rfl rfl rfl (by decide +kernel) ⟨Nat.le_of_ble_eq_true rfl, Nat.le_of_ble_eq_true rfl⟩) (preV hP hK (x_recv (ci := 6) (q := (RX6, TX6, 11)) hK.1 hP (by omega) (by omega) rfl ((gw_out (by omega)).trans ((gw_out (by omega)).trans hw_0)))) rfl rfl hl.1 rfl (lv_room (Nat.le_of_ble_eq_true rfl)) dL_law_243 ⟨by show cells + 0 ≤ 789567; omega, by show slots + 0 ≤ 6732998; omega⟩) hS (fun H locs hP hS => ?_)
    rw [res_eq (k := 3) (T := T2) (T' := G) hG] at hP ⊢
    rw [res_eq (k := nb) (T := (m_res 3 3 G T2).2) (T' := G) hG] at hP
    generalize hTb : (m_res 3 nb G (m_res 3 3 G T2).2).2 = Tb at hP
    have hP : va_P D vwCl (rl lo n (pw cy v1 (o + 1) G Tb (m_bookP 3 P ((m_res 3 3 G G).1) ((m_res 3 3 G G).1 - (m_res 3 nb G G).1)))) H := hP
    have hTo2 : TW cy (pw cy v1 (o + 1) G Tb (m_bookP 3 P ((m_res 3 3 G G).1) ((m_res 3 3 G G).1 - (m_res 3 nb G G).1))) A2 lo n o b d2 wo2 wr2 3 G Tb (m_bookP 3 P ((m_res 3 3 G G).1) ((m_res 3 3 G G).1 - (m_res 3 nb G G).1)) := hTo.fld rfl (fun _ _ => ⟨rfl, rfl⟩) (fun _ _ => ⟨rfl, rfl, rfl, book_k (by omega), book_k (by omega)⟩) (fun _ _ => rfl)
    have hI2 : LI cy (pw cy v1 (o + 1) G Tb (m_bookP 3 P ((m_res 3 3 G G).1) ((m_res 3 3 G G).1 - (m_res 3 nb G G).1))) A A2 lo n t o b d d2 wo wr wo2 wr2 G Ta Tb (m_bookP 3 P ((m_res 3 3 G G).1) ((m_res 3 3 G G).1 - (m_res 3 nb G G).1)) := ⟨hTt.frame (fun a ha => hTo.fr_fld a (hI.2.2.1 a ha)), hTo2, hI.2.2.1, hG, fun i hi => by rw [book_k (by omega), book_k (by omega)]; exact hI.pb i hi⟩
    refine x_gen hP (fun v2 ev2 hP => ?_)
    rw [← ev2] at hI2
    refine lv_iload hx hb dL_law_246 (lv_at hl 0 rfl) ?_
    refine lv_icmp_ne (tgt := 305) hx hb dL_law_248 (by decide) (fun h => absurd rfl h) (fun _ => ?_)
    have hbs := book_sum (nd := 3) (P := P) (r := (m_res 3 3 G G).1) (f := (m_res 3 3 G G).1 - (m_res 3 nb G G).1)
    have hba := book_at (nd := 3) (P := P) (r := (m_res 3 3 G G).1) (f := (m_res 3 3 G G).1 - (m_res 3 nb G G).1)
    have hbp : ∃ nc, nc ≤ 3 ∧ (m_bookP 3 P ((m_res 3 3 G G).1) ((m_res 3 3 G G).1 - (m_res 3 nb G G).1)) 101 5 = nI nc := ⟨3, Nat.le_refl 3, hba.2.2.1⟩
    have hbk : ∀ i, (m_bookP 3 P ((m_res 3 3 G G).1) ((m_res 3 3 G G).1 - (m_res 3 nb G G).1)) (103 + 2 * i) 0 = P (103 + 2 * i) 0 := fun i => book_k (by omega)
    generalize m_bookP 3 P ((m_res 3 3 G G).1) ((m_res 3 3 G G).1 - (m_res 3 nb G G).1) = P2 at hP hI2 hbs hba hbp hbk
    have hP := TW.to hI2.1.pf hP
    refine lv_aload hx hb dL_law_251 (lv_at hl 6 rfl) ?_
    refine lv_iconst (v := 0) hx hb dL_law_253 (by decide) ?_
    refine x_calli (va_runV (As := [.int 0]) (rest := []) ⟨hx, hb, hml, hown, hts⟩ (c_X6_booked_0 l D cy lo n v2 (t + 1) G Ta (P2) (by omega) (by omega)) (cwV 1 hts gL_law_X6_booked rfl rfl rfl (by decide +kernel) ⟨Nat.le_of_ble_eq_true rfl, Nat.le_of_ble_eq_true rfl⟩) (preV hP hK (x_recv (ci := 6) (q := (RX6, TX6, 11)) hK.1 hP (by omega) (by omega) rfl ((gw_out (by omega)).trans ((gw_out (by omega)).trans hw_0)))) rfl rfl hl.1 rfl (lv_room (Nat.le_of_ble_eq_true rfl)) dL_law_254 ⟨by show cells + 0 ≤ 789567; omega, by show slots + 0 ≤ 6732998; omega⟩) hS (fun H locs hP hS => ?_)
    have hP : va_P D vwCl (rl lo n (pw cy v2 (t + 1) G Ta (P2))) H := hP
    refine lv_iload hx hb dL_law_257 (lv_at hl 0 rfl) ?_
    refine lv_icmp_ne (tgt := 305) hx hb dL_law_259 (by decide) (fun h => absurd hba.1 h) (fun _ => ?_)
    refine lv_iload hx hb dL_law_262 (lv_at hl 0 rfl) ?_
    refine lv_iload hx hb dL_law_264 (lv_at hl 1 rfl) ?_
    refine lv_isub hx hb dL_law_266 ?_
    refine lv_aload hx hb dL_law_267 (lv_at hl 6 rfl) ?_
    refine lv_iconst (v := 1) hx hb dL_law_269 (by decide) ?_
    refine x_calli (va_runV (As := [.int 1]) (rest := [.int ((m_res 3 3 G G).1 - P 101 0)]) ⟨hx, hb, hml, hown, hts⟩ (c_X6_booked_1 l D cy lo n v2 (t + 1) G Ta (P2) (by omega) (by omega)) (cwV 1 hts gL_law_X6_booked rfl rfl rfl (by decide +kernel) ⟨Nat.le_of_ble_eq_true rfl, Nat.le_of_ble_eq_true rfl⟩) (preV hP hK (x_recv (ci := 6) (q := (RX6, TX6, 11)) hK.1 hP (by omega) (by omega) rfl ((gw_out (by omega)).trans ((gw_out (by omega)).trans hw_0)))) rfl rfl hl.1 rfl (lv_room (Nat.le_of_ble_eq_true rfl)) dL_law_270 ⟨by show cells + 0 ≤ 789567; omega, by show slots + 0 ≤ 6732998; omega⟩) hS (fun H locs hP hS => ?_)
    have hP : va_P D vwCl (rl lo n (pw cy v2 (t + 1) G Ta (P2))) H := hP
    refine lv_aload hx hb dL_law_273 (lv_at hl 6 rfl) ?_
    refine lv_iconst (v := 2) hx hb dL_law_275 (by decide) ?_
    refine x_calli (va_runV (As := [.int 2]) (rest := [.int (P2 101 1), .int ((m_res 3 3 G G).1 - P 101 0)]) ⟨hx, hb, hml, hown, hts⟩ (c_X6_booked_2 l D cy lo n v2 (t + 1) G Ta (P2) (by omega) (by omega)) (cwV 1 hts gL_law_X6_booked rfl rfl rfl (by decide +kernel) ⟨Nat.le_of_ble_eq_true rfl, Nat.le_of_ble_eq_true rfl⟩) (preV hP hK (x_recv (ci := 6) (q := (RX6, TX6, 11)) hK.1 hP (by omega) (by omega) rfl ((gw_out (by omega)).trans ((gw_out (by omega)).trans hw_0)))) rfl rfl hl.1 rfl (lv_room (Nat.le_of_ble_eq_true rfl)) dL_law_276 ⟨by show cells + 0 ≤ 789567; omega, by show slots + 0 ≤ 6732998; omega⟩) hS (fun H locs hP hS => ?_)
    have hP : va_P D vwCl (rl lo n (pw cy v2 (t + 1) G Ta (P2))) H := hP
    refine lv_iadd hx hb dL_law_279 ?_
    refine lv_aload hx hb dL_law_280 (lv_at hl 6 rfl) ?_
    refine lv_iconst (v := 3) hx hb dL_law_282 (by decide) ?_
    refine x_calli (va_runV (As := [.int 3]) (rest := [.int (P2 101 1 + P2 101 2), .int ((m_res 3 3 G G).1 - P 101 0)]) ⟨hx, hb, hml, hown, hts⟩ (c_X6_booked_3 l D cy lo n v2 (t + 1) G Ta (P2) (by omega) (by omega)) (cwV 1 hts gL_law_X6_booked rfl rfl rfl (by decide +kernel) ⟨Nat.le_of_ble_eq_true rfl, Nat.le_of_ble_eq_true rfl⟩) (preV hP hK (x_recv (ci := 6) (q := (RX6, TX6, 11)) hK.1 hP (by omega) (by omega) rfl ((gw_out (by omega)).trans ((gw_out (by omega)).trans hw_0)))) rfl rfl hl.1 rfl (lv_room (Nat.le_of_ble_eq_true rfl)) dL_law_283 ⟨by show cells + 0 ≤ 789567; omega, by show slots + 0 ≤ 6732998; omega⟩) hS (fun H locs hP hS => ?_)
    have hP : va_P D vwCl (rl lo n (pw cy v2 (t + 1) G Ta (P2))) H := hP
    refine lv_iadd hx hb dL_law_286 ?_
    refine lv_icmp_ne (tgt := 305) hx hb dL_law_287 (by decide) (fun h => absurd hbs h) (fun _ => ?_)
    refine lv_aload hx hb dL_law_290 (lv_at hl 6 rfl) ?_
    refine lv_iconst (v := 4) hx hb dL_law_292 (by decide) ?_
    refine x_calli (va_runV (As := [.int 4]) (rest := []) ⟨hx, hb, hml, hown, hts⟩ (c_X6_booked_4 l D cy lo n v2 (t + 1) G Ta (P2) (by omega) (by omega)) (cwV 1 hts gL_law_X6_booked rfl rfl rfl (by decide +kernel) ⟨Nat.le_of_ble_eq_true rfl, Nat.le_of_ble_eq_true rfl⟩) (preV hP hK (x_recv (ci := 6) (q := (RX6, TX6, 11)) hK.1 hP (by omega) (by omega) rfl ((gw_out (by omega)).trans ((gw_out (by omega)).trans hw_0)))) rfl rfl hl.1 rfl (lv_room (Nat.le_of_ble_eq_true rfl)) dL_law_293 ⟨by show cells + 0 ≤ 789567; omega, by show slots + 0 ≤ 6732998; omega⟩) hS (fun H locs hP hS => ?_)
    have hP : va_P D vwCl (rl lo n (pw cy v2 (t + 1) G Ta (P2))) H := hP
    refine lv_aload hx hb dL_law_296 (lv_at hl 6 rfl) ?_
    refine lv_iconst (v := 0) hx hb dL_law_298 (by decide) ?_
    refine x_calli (va_runV (As := [.int 0]) (rest := [.int (P2 101 4)]) ⟨hx, hb, hml, hown, hts⟩ (c_X6_many_0 l D cy lo n v2 (t + 1) G Ta P2 (by omega) (by omega) 3 hG) (cwV 1 hts gL_law_X6_many rfl rfl rfl (by decide +kernel) ⟨Nat.le_of_ble_eq_true rfl, Nat.le_of_ble_eq_true rfl⟩) (preV hP hK (x_recv (ci := 6) (q := (RX6, TX6, 11)) hK.1 hP (by omega) (by omega) rfl ((gw_out (by omega)).trans ((gw_out (by omega)).trans hw_0)))) rfl rfl hl.1 rfl (lv_room (Nat.le_of_ble_eq_true rfl)) dL_law_299 ⟨by show cells + 0 ≤ 789567; omega, by show slots + 0 ≤ 6732998; omega⟩) hS (fun H locs hP hS => ?_)
    have hP : va_P D vwCl (rl lo n (pw cy v2 (t + 1) G Ta P2)) H := hP
    rw [hI2.1.pf] at hP
    refine lv_icmp_eq (tgt := 307) hx hb dL_law_302 (by decide) (fun _ => ?_) (fun h => absurd (show P2 101 4 = P2 0 6 from hba.2.1.trans hba.2.2.2.symm) h)
    exact kk H locs ls v2 Ta Tb P2 hbp hbk hI2 (lv_sub hl [2, 3, 4, 5, 6, 7, 8, 9, 10, 11, 12, 13, 14] rfl) hP hS
  · refine lv_if_ne (tgt := 307) hx hb dL_law_221 (by decide) (fun _ => ?_) (fun h => absurd ((nI_eq (a := k % 3) (b := 0) (by omega) (by omega)).mp h) h3)
    exact kk H locs ls w T T2 P ⟨nb, hnb, h5⟩ (fun _ => rfl) hI hl hP hS
