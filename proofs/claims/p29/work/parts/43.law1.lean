/-! the law, stretch by stretch -/
set_option maxRecDepth 100000 in
set_option maxHeartbeats 8000000 in
/-- both are told the same; what is drawn -/
theorem lw_turns {p : Program} {l : Launch} {e : Env} {s : State} {m : MethodId} {below : List Frame} {meth : Method} {c : Code} {Q : State → Prop} {D : va_G} {cy : Nat → ClassId} {b L : Nat} {xs : Nat → Int32} (hC : LC D cy p s m c b L) {H0 H : Heap} {locs : List Loc} {ls : Array Slot} {cells slots : Nat} (hce : cells ≤ 700000) (hsl : slots ≤ 6000000) {lo n : Nat} {w : Nat → va_E} (hX : va_X b L xs s H0) (hbl : b < lo) {A A2 : Nat → Prop} {t o d wo wo2 ti k : Nat} {wr wr2 : Nat → Nat} {G T T2 P : Mem} (hI : LI cy w A A2 lo n t o b d d wo wr wo2 wr2 G T T2 P) (hd : d < 800000) (hl : lv_has ls 17 [(0, .ref b), (1, .int (nI ti)), (2, .ref t), (3, .ref o), (4, .ref (t + 1)), (5, .int (nI k))]) (hP : va_P D vwCl (rl lo n w) H) (hS : va_S (fun q : Nat => lo ≤ q) H0 H locs)
    (kk : ∀ (H : Heap) (locs : List Loc) (ls : Array Slot) (w : Nat → va_E) (d1 iw ic mo ot : Nat), iw < 3 → ic < 16 → ¬ m_nb ic 1 = -1 → 1 ≤ mo → mo ≤ 4 → ot < 10 → d1 ≤ d + 12 → LI cy w A A2 lo n t o b d1 d1 wo wr wo2 wr2 (m_turn L xs d 3 G P).1.1 T T2 (m_turn L xs d 3 G P).1.2 → lv_has ls 17 [(0, .ref b), (1, .int (nI ti)), (2, .ref t), (3, .ref o), (4, .ref (t + 1)), (5, .int (nI k)), (6, .int (nI iw)), (7, .int (nI ic)), (8, .int (nI mo)), (9, .int (nI ot))] → va_P D vwCl (rl lo n w) H → va_S (fun q : Nat => lo ≤ q) H0 H locs → W p l e room_1 s m #[Value.ref b] below meth c H locs cells slots Q (F0 m 136 ls [])) : W p l e room_1 s m #[Value.ref b] below meth c H locs cells slots Q (F0 m 73 ls []) := by
  obtain ⟨hx, hb, hml, hown, hts, hKI, hL⟩ := id hC
  have hK : KK D cy s := hKI.1
  have htb := hI.1.tb
  have hob := hI.2.1.tb
  have h0 := hI
  refine lv_aload_n hx hb dL_law_73 rfl (lv_at hl 2 rfl) ?_
  refine x_callx (va_runV (As := []) (rest := []) ⟨hx, hb, hml, hown, hts⟩ (c_X7_turn l D cy lo n w b L xs hbl hL A t d wo wr 3 G T P hI.1 hI.g (by omega) (by omega) hI.pb) (cwV 0 hts gL_law_X7_turn rfl rfl rfl (by decide +kernel) ⟨Nat.le_of_ble_eq_true rfl, Nat.le_of_ble_eq_true rfl⟩) (preVT hP hK (x_scrH hX hbl hS) (x_recv (ci := 7) (q := (RX7, TX7, 13)) hK.1 hP (by omega) (by omega) rfl hI.1.obj)) rfl rfl hl.1 rfl (lv_room (Nat.le_of_ble_eq_true rfl)) dL_law_74 ⟨by show cells + 0 ≤ 789567; omega, by show slots + 0 ≤ 6732998; omega⟩) hS (fun v1 u1 H locs hX1 hP hS => ?_)
  obtain ⟨rfl, hTt, hFt⟩ := hX1
  have hTo := h0.2.1.frame (fun a ha => hFt a (h0.no ha))
  refine lv_if_eq (tgt := 87) hx hb dL_law_77 (by decide) (fun h => absurd h (by decide)) (fun _ => ?_)
  refine lv_aload_n hx hb dL_law_80 rfl (lv_at hl 3 rfl) ?_
  refine x_callx (va_runV (As := []) (rest := []) ⟨hx, hb, hml, hown, hts⟩ (c_X7_turn l D cy lo n u1 b L xs hbl hL A2 o d wo2 wr2 3 G T2 P hTo hI.g (by omega) (by omega) hI.pb) (cwV 0 hts gL_law_X7_turn rfl rfl rfl (by decide +kernel) ⟨Nat.le_of_ble_eq_true rfl, Nat.le_of_ble_eq_true rfl⟩) (preVT hP hK (x_scrH hX hbl hS) (x_recv (ci := 7) (q := (RX7, TX7, 13)) hK.1 hP (by omega) (by omega) rfl hTo.obj)) rfl rfl hl.1 rfl (lv_room (Nat.le_of_ble_eq_true rfl)) dL_law_81 ⟨by show cells + 0 ≤ 789567; omega, by show slots + 0 ≤ 6732998; omega⟩) hS (fun v2 u2 H locs hX2 hP hS => ?_)
  obtain ⟨rfl, hTo2, hFo⟩ := hX2
  have hTt2 := hTt.frame (fun a ha => hFo a (h0.2.2.1 a ha))
  have hd7 := turn_d (L := L) (xs := xs) (d := d) (nd := 3) (G := G) (P := P)
  have hI : LI cy u2 A A2 lo n t o b (m_turn L xs d 3 G P).2 (m_turn L xs d 3 G P).2 wo wr wo2 wr2 (m_turn L xs d 3 G P).1.1 T T2 (m_turn L xs d 3 G P).1.2 := ⟨hTt2, hTo2, h0.2.2.1, turn_gi h0.g, turn_pb h0.pb⟩
  clear hTt hTo hTt2 hTo2 hFt hFo h0
  generalize (m_turn L xs d 3 G P).1.1 = G1 at hI kk
  generalize (m_turn L xs d 3 G P).1.2 = P1 at hI kk
  generalize (m_turn L xs d 3 G P).2 = d1 at hI hd7
  refine lv_if_ne (tgt := 89) hx hb dL_law_84 (by decide) (fun _ => ?_) (fun h => absurd h (by decide))
  refine lv_aload_n hx hb dL_law_89 rfl (lv_at hl 2 rfl) ?_
  refine lv_iconst (v := 3) hx hb dL_law_90 (by decide) ?_
  refine x_calli (va_runV (As := [.int (nI 3)]) (rest := []) ⟨hx, hb, hml, hown, hts⟩ (c_X7_draw l D cy lo n u2 b L xs hbl hL t (d1) wo _ (by omega) (by omega) hI.1.obj (by omega) 3 (by omega) (by omega)) (cwV 1 hts gL_law_X7_draw rfl rfl rfl (by decide +kernel) ⟨Nat.le_of_ble_eq_true rfl, Nat.le_of_ble_eq_true rfl⟩) (preVT hP hK (x_scrH hX hbl hS) (x_recv (ci := 7) (q := (RX7, TX7, 13)) hK.1 hP (by omega) (by omega) rfl hI.1.obj)) rfl rfl hl.1 rfl (lv_room (Nat.le_of_ble_eq_true rfl)) dL_law_91 ⟨by show cells + 0 ≤ 789567; omega, by show slots + 0 ≤ 6732998; omega⟩) hS (fun H locs hP hS => ?_)
  refine x_gen hP (fun x0 ex0 hP => ?_)
  have hI : LI cy x0 A A2 lo n t o b (d1 + 1) d1 wo wr wo2 wr2 G1 T T2 P1 := by rw [ex0]; exact hI.drT
  rw [(dw_tn (L := L) (xs := xs) (d := d1) (N := 3) (by omega) (by omega)).1]
  have hn0 := tn_lt (L := L) (xs := xs) (d := d1) (N := 3) (by omega) (by omega)
  generalize hiw : tn L xs d1 3 = iw at hn0 ⊢
  refine lv_istore (lv' := [(6, .int (nI iw)), (0, .ref b), (1, .int (nI ti)), (2, .ref t), (3, .ref o), (4, .ref (t + 1)), (5, .int (nI k))]) hx hb dL_law_94 hl (by decide) rfl (fun ls hl => ?_)
  refine lv_iconst (v := 4) hx hb dL_law_96 (by decide) ?_
  refine lv_aload_n hx hb dL_law_97 rfl (lv_at hl 3 rfl) ?_
  refine lv_iconst (v := 4) hx hb dL_law_98 (by decide) ?_
  refine x_calli (va_runV (As := [.int (nI 4)]) (rest := [.int 4]) ⟨hx, hb, hml, hown, hts⟩ (c_X7_draw l D cy lo n x0 b L xs hbl hL t (d1 + 1) wo _ (by omega) (by omega) hI.1.obj (by omega) 4 (by omega) (by omega)) (cwV 1 hts gL_law_X7_draw rfl rfl rfl (by decide +kernel) ⟨Nat.le_of_ble_eq_true rfl, Nat.le_of_ble_eq_true rfl⟩) (preVT hP hK (x_scrH hX hbl hS) (x_recv (ci := 7) (q := (RX7, TX7, 13)) hK.1 hP (by omega) (by omega) rfl hI.1.obj)) rfl rfl hl.1 rfl (lv_room (Nat.le_of_ble_eq_true rfl)) dL_law_99 ⟨by show cells + 0 ≤ 789567; omega, by show slots + 0 ≤ 6732998; omega⟩) hS (fun H locs hP hS => ?_)
  refine x_gen hP (fun x1 ex1 hP => ?_)
  have hI : LI cy x1 A A2 lo n t o b (d1 + 2) d1 wo wr wo2 wr2 G1 T T2 P1 := by rw [ex1]; exact hI.drT
  rw [(dw_tn (L := L) (xs := xs) (d := d1 + 1) (N := 4) (by omega) (by omega)).1]
  have hn1 := tn_lt (L := L) (xs := xs) (d := d1 + 1) (N := 4) (by omega) (by omega)
  generalize hxx : tn L xs (d1 + 1) 4 = xx at hn1 ⊢
  refine lv_imul hx hb dL_law_102 ?_
  refine lv_aload_n hx hb dL_law_103 rfl (lv_at hl 3 rfl) ?_
  refine lv_iconst (v := 3) hx hb dL_law_104 (by decide) ?_
  refine x_calli (va_runV (As := [.int (nI 3)]) (rest := [.int (4 * nI xx)]) ⟨hx, hb, hml, hown, hts⟩ (c_X7_draw l D cy lo n x1 b L xs hbl hL t (d1 + 2) wo _ (by omega) (by omega) hI.1.obj (by omega) 3 (by omega) (by omega)) (cwV 1 hts gL_law_X7_draw rfl rfl rfl (by decide +kernel) ⟨Nat.le_of_ble_eq_true rfl, Nat.le_of_ble_eq_true rfl⟩) (preVT hP hK (x_scrH hX hbl hS) (x_recv (ci := 7) (q := (RX7, TX7, 13)) hK.1 hP (by omega) (by omega) rfl hI.1.obj)) rfl rfl hl.1 rfl (lv_room (Nat.le_of_ble_eq_true rfl)) dL_law_105 ⟨by show cells + 0 ≤ 789567; omega, by show slots + 0 ≤ 6732998; omega⟩) hS (fun H locs hP hS => ?_)
  refine x_gen hP (fun x2 ex2 hP => ?_)
  have hI : LI cy x2 A A2 lo n t o b (d1 + 3) d1 wo wr wo2 wr2 G1 T T2 P1 := by rw [ex2]; exact hI.drT
  rw [(dw_tn (L := L) (xs := xs) (d := d1 + 2) (N := 3) (by omega) (by omega)).1]
  have hn2 := tn_lt (L := L) (xs := xs) (d := d1 + 2) (N := 3) (by omega) (by omega)
  generalize hyy : tn L xs (d1 + 2) 3 = yy at hn2 ⊢
  refine lv_iadd hx hb dL_law_108 ?_
  have ece : 4 * nI xx + nI yy = nI (yy + 4 * xx) := by
      have k : ∀ f, f < 3 → ∀ c, c < 4 → 4 * nI c + nI f = nI (f + 4 * c) := by decide +kernel
      exact k yy hn2 xx hn1
  rw [ece]
  have hnb := nb_e hn2 hn1
  have hc16 : yy + 4 * xx < 16 := by omega
  generalize yy + 4 * xx = ic at hnb hc16 ⊢
  refine lv_istore (lv' := [(7, .int (nI ic)), (6, .int (nI iw)), (0, .ref b), (1, .int (nI ti)), (2, .ref t), (3, .ref o), (4, .ref (t + 1)), (5, .int (nI k))]) hx hb dL_law_109 hl (by decide) rfl (fun ls hl => ?_)
  refine lv_iconst (v := 1) hx hb dL_law_111 (by decide) ?_
  refine lv_aload_n hx hb dL_law_112 rfl (lv_at hl 4 rfl) ?_
  refine lv_iconst (v := 4) hx hb dL_law_113 (by decide) ?_
  refine x_calli (va_runV (As := [.int (nI 4)]) (rest := [.int 1]) ⟨hx, hb, hml, hown, hts⟩ (c_X7_draw l D cy lo n x2 b L xs hbl hL t (d1 + 3) wo _ (by omega) (by omega) hI.1.obj (by omega) 4 (by omega) (by omega)) (cwV 1 hts gL_law_X7_draw rfl rfl rfl (by decide +kernel) ⟨Nat.le_of_ble_eq_true rfl, Nat.le_of_ble_eq_true rfl⟩) (preVT hP hK (x_scrH hX hbl hS) (x_recv (ci := 7) (q := (RX7, TX7, 13)) hK.1 hP (by omega) (by omega) rfl hI.1.obj)) rfl rfl hl.1 rfl (lv_room (Nat.le_of_ble_eq_true rfl)) dL_law_114 ⟨by show cells + 0 ≤ 789567; omega, by show slots + 0 ≤ 6732998; omega⟩) hS (fun H locs hP hS => ?_)
  refine x_gen hP (fun x3 ex3 hP => ?_)
  have hI : LI cy x3 A A2 lo n t o b (d1 + 4) d1 wo wr wo2 wr2 G1 T T2 P1 := by rw [ex3]; exact hI.drT
  rw [(dw_tn (L := L) (xs := xs) (d := d1 + 3) (N := 4) (by omega) (by omega)).1]
  have hn3 := tn_lt (L := L) (xs := xs) (d := d1 + 3) (N := 4) (by omega) (by omega)
  refine lv_iadd hx hb dL_law_117 ?_
  rw [show (1 : Int32) + nI (tn L xs (d1 + 3) 4) = nI (1 + tn L xs (d1 + 3) 4) from nI_add 1 _]
  have hm1 : 1 ≤ 1 + tn L xs (d1 + 3) 4 := by omega
  have hm4 : 1 + tn L xs (d1 + 3) 4 ≤ 4 := by omega
  generalize 1 + tn L xs (d1 + 3) 4 = mo at hm1 hm4 ⊢
  refine lv_istore (lv' := [(8, .int (nI mo)), (7, .int (nI ic)), (6, .int (nI iw)), (0, .ref b), (1, .int (nI ti)), (2, .ref t), (3, .ref o), (4, .ref (t + 1)), (5, .int (nI k))]) hx hb dL_law_118 hl (by decide) rfl (fun ls hl => ?_)
  refine lv_aload_n hx hb dL_law_120 rfl (lv_at hl 5 rfl) ?_
  refine lv_bipush (v := 10) hx hb dL_law_121 (by decide) ?_
  refine x_calli (va_runV (As := [.int (nI 10)]) (rest := []) ⟨hx, hb, hml, hown, hts⟩ (c_X7_draw l D cy lo n x3 b L xs hbl hL t (d1 + 4) wo _ (by omega) (by omega) hI.1.obj (by omega) 10 (by omega) (by omega)) (cwV 1 hts gL_law_X7_draw rfl rfl rfl (by decide +kernel) ⟨Nat.le_of_ble_eq_true rfl, Nat.le_of_ble_eq_true rfl⟩) (preVT hP hK (x_scrH hX hbl hS) (x_recv (ci := 7) (q := (RX7, TX7, 13)) hK.1 hP (by omega) (by omega) rfl hI.1.obj)) rfl rfl hl.1 rfl (lv_room (Nat.le_of_ble_eq_true rfl)) dL_law_123 ⟨by show cells + 0 ≤ 789567; omega, by show slots + 0 ≤ 6732998; omega⟩) hS (fun H locs hP hS => ?_)
  refine x_gen hP (fun x4 ex4 hP => ?_)
  have hI : LI cy x4 A A2 lo n t o b (d1 + 5) d1 wo wr wo2 wr2 G1 T T2 P1 := by rw [ex4]; exact hI.drT
  rw [(dw_tn (L := L) (xs := xs) (d := d1 + 4) (N := 10) (by omega) (by omega)).1]
  have hn4 := tn_lt (L := L) (xs := xs) (d := d1 + 4) (N := 10) (by omega) (by omega)
  generalize tn L xs (d1 + 4) 10 = ot at hn4 ⊢
  refine lv_istore (lv' := [(9, .int (nI ot)), (8, .int (nI mo)), (7, .int (nI ic)), (6, .int (nI iw)), (0, .ref b), (1, .int (nI ti)), (2, .ref t), (3, .ref o), (4, .ref (t + 1)), (5, .int (nI k))]) hx hb dL_law_126 hl (by decide) rfl (fun ls hl => ?_)
  refine lv_aload_n hx hb dL_law_128 rfl (lv_at hl 7 rfl) ?_
  refine lv_aload_n hx hb dL_law_129 rfl (lv_at hl 6 rfl) ?_
  refine x_get (ref := RX7) (C := RX7) (T := TX7) (N := 13) (ci := 7) (v := .int (nI (d1 + 5))) hx hb hts inlX7 hown hK.1 hP (by omega) (by omega) hI.1.obj rfl 2 (by decide) (hts (.fieldLink RL 30 "PoreFieldLaw$Told" "draws" "I") (by decide +kernel)) (fun _ h9 => h9) rfl dL_law_130 ?_
  refine x_put (ty := .int) (ref := RX7) (C := RX7) (T := TX7) (N := 13) (ci := 7) (v := .int (nI (d1 + 5))) hx hb hts inlX7 tyX7 tyX7_ok nmX7 hown hK.1 hP hS (by omega) (by omega) hI.2.1.obj rfl 2 (by decide) (hts (.fieldLink RL 30 "PoreFieldLaw$Told" "draws" "I") (by decide +kernel)) (fun _ h9 => h9) rfl (by decide +kernel) rfl rfl (Nat.le_of_ble_eq_true rfl) dL_law_133 (fun H locs hP hS => ?_)
  exact kk H locs ls _ (d1 + 5) iw ic mo ot hn0 hc16 hnb hm1 hm4 hn4 (by omega) hI.drO (lv_sub hl [4, 5, 6, 7, 8, 9, 3, 2, 1, 0] rfl) hP hS
