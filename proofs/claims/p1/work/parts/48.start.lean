/-! the law: its one turn, from the switch on -/
set_option maxRecDepth 100000 in
set_option maxHeartbeats 1000000 in
theorem lw_turn {p : Program} {l : Launch} {e : Env} {s : State} {m : MethodId} {below : List Frame} {meth : Method} {c : Code} {Q : State → Prop} {D : va_G} {cy : Nat → ClassId} {b : Nat} {xs : Nat → Int32} {lo n o q t : Nat} {w : Nat → va_E} (hfl : l.stackTraces = false) (hC : LC D cy p s m c b 6 xs lo) (hI : IV cy w lo n o q t) {H : Heap} {locs : List Loc} {ls : Array Slot} {cells slots : Nat} (hce : s.heap.size + cells = lo + n) (hsl : slots ≤ 2000) (hP : va_P D vwCl (rl lo n w) H) (hS : va_S (fun q : Nat => lo ≤ q) s.heap H locs) (hl : lv_has ls 9 [(0, .ref b), (1, .ref o), (2, .ref q), (3, .ref t), (4, .int (0 : Int32))])
    (kend : ∀ (H : Heap) (locs : List Loc) (ls : Array Slot) (cells slots : Nat), cells ≤ 3000 → slots ≤ 9000 → va_S (fun q : Nat => lo ≤ q) s.heap H locs → W p l e room_1 s m #[Value.ref b] below meth c H locs cells slots Q (F0 m 1800 ls [])) : W p l e room_1 s m #[Value.ref b] below meth c H locs cells slots Q (F0 m 33 ls []) := by
  obtain ⟨hx, hb, hml, hown, hts, htl, hKI, hXK, hZ, hY, hX, hbs, hlo⟩ := id hC
  have hbl : b < lo := by omega
  have hK : KK D cy s := hKI.1
  obtain ⟨ho, hq, ht, hn, hpw, hM, hB, hF, ht0⟩ := id hI
  have kk : ∀ (H : Heap) (locs : List Loc) (ls : Array Slot) (cells slots : Nat), cells ≤ 3000 → slots ≤ 9000 → lv_has ls 9 [(0, .ref b), (4, .int (0 : Int32))] → va_S (fun q : Nat => lo ≤ q) s.heap H locs → W p l e room_1 s m #[Value.ref b] below meth c H locs cells slots Q (F0 m 1794 ls []) := by
    intro H locs ls cells slots hce hsl hl hS
    refine lv_iinc (v := 6) (lv' := [(4, .int (6 : Int32)), (0, .ref b)]) hx hb dL_law_1794 hl (k := 1) rfl (by decide) (by decide) rfl (fun ls hl => ?_)
    refine lv_goto (tgt := 23) hx hb dL_law_1797 (by decide) ?_
    refine lv_iload hx hb dL_law_23 (lv_at hl 0 rfl) ?_
    refine lv_aload_n hx hb dL_law_25 rfl (lv_at hl 1 rfl) ?_
    refine va_slen hx hb hX hbs (by show ¬ lo ≤ b; omega) hS dL_law_26 ?_
    refine lv_bipush (v := 6) hx hb dL_law_27 (by decide) ?_
    refine lv_isub hx hb dL_law_29 ?_
    refine lv_icmp_gt (tgt := 1800) hx hb dL_law_30 (by decide) (fun _ => ?_) (fun h9 => absurd (by decide) h9)
    exact kend H locs ls cells slots hce hsl hS
  refine lv_aload_n hx hb dL_law_33 rfl (lv_at hl 0 rfl) ?_
  refine lv_iload hx hb dL_law_34 (lv_at hl 4 rfl) ?_
  refine x_sld hx hb hX hbs hbl hS (i := 0) (by decide) (by unfold vp_in; decide) dL_law_36 ?_
  refine lv_bipush (v := 31) hx hb dL_law_37 (by decide) ?_
  refine lv_iand hx hb dL_law_39 ?_
  obtain ⟨k, hk, ek⟩ := and31 (xs 0)
  rw [ek]
  clear ek
  rcases (by omega : k = 0 ∨ k = 1 ∨ k = 2 ∨ k = 3 ∨ k = 4 ∨ k = 5 ∨ k = 6 ∨ k = 7 ∨ k = 8 ∨ k = 9 ∨ k = 10 ∨ k = 11 ∨ k = 12 ∨ k = 13 ∨ k = 14 ∨ k = 15 ∨ k = 16 ∨ k = 17 ∨ k = 18 ∨ k = 19 ∨ k = 20 ∨ k = 21 ∨ k = 22 ∨ k = 23 ∨ k = 24 ∨ k = 25 ∨ k = 26 ∨ k = 27 ∨ k = 28 ∨ k = 29 ∨ k = 30 ∨ k = 31) with rfl | rfl | rfl | rfl | rfl | rfl | rfl | rfl | rfl | rfl | rfl | rfl | rfl | rfl | rfl | rfl | rfl | rfl | rfl | rfl | rfl | rfl | rfl | rfl | rfl | rfl | rfl | rfl | rfl | rfl | rfl | rfl
  · exact lv_tableIn (off := 120) (tgt := 160) hx hb dL_law_40 (by decide +kernel) (by decide +kernel) (by decide +kernel) (by decide +kernel) (lw_c0 hfl hC hI hce hsl hP hS hl kk)
  · exact lv_tableIn (off := 224) (tgt := 264) hx hb dL_law_40 (by decide +kernel) (by decide +kernel) (by decide +kernel) (by decide +kernel) (lw_c1 hfl hC hI hce hsl hP hS hl kk)
  · exact lv_tableIn (off := 343) (tgt := 383) hx hb dL_law_40 (by decide +kernel) (by decide +kernel) (by decide +kernel) (by decide +kernel) (lw_c2 hfl hC hI hce hsl hP hS hl kk)
  · exact lv_tableIn (off := 411) (tgt := 451) hx hb dL_law_40 (by decide +kernel) (by decide +kernel) (by decide +kernel) (by decide +kernel) (lw_c3 hfl hC hI hce hsl hP hS hl kk)
  · exact lv_tableIn (off := 479) (tgt := 519) hx hb dL_law_40 (by decide +kernel) (by decide +kernel) (by decide +kernel) (by decide +kernel) (lw_c4 hfl hC hI hce hsl hP hS hl kk)
  · exact lv_tableIn (off := 547) (tgt := 587) hx hb dL_law_40 (by decide +kernel) (by decide +kernel) (by decide +kernel) (by decide +kernel) (lw_c5 hfl hC hI hce hsl hP hS hl kk)
  · exact lv_tableIn (off := 610) (tgt := 650) hx hb dL_law_40 (by decide +kernel) (by decide +kernel) (by decide +kernel) (by decide +kernel) (lw_c6 hfl hC hI hce hsl hP hS hl kk)
  · exact lv_tableIn (off := 666) (tgt := 706) hx hb dL_law_40 (by decide +kernel) (by decide +kernel) (by decide +kernel) (by decide +kernel) (lw_c7 hfl hC hI hce hsl hP hS hl kk)
  · exact lv_tableIn (off := 734) (tgt := 774) hx hb dL_law_40 (by decide +kernel) (by decide +kernel) (by decide +kernel) (by decide +kernel) (lw_c8 hfl hC hI hce hsl hP hS hl kk)
  · exact lv_tableIn (off := 790) (tgt := 830) hx hb dL_law_40 (by decide +kernel) (by decide +kernel) (by decide +kernel) (by decide +kernel) (lw_c9 hfl hC hI hce hsl hP hS hl kk)
  · exact lv_tableIn (off := 846) (tgt := 886) hx hb dL_law_40 (by decide +kernel) (by decide +kernel) (by decide +kernel) (by decide +kernel) (lw_c10 hfl hC hI hce hsl hP hS hl kk)
  · exact lv_tableIn (off := 914) (tgt := 954) hx hb dL_law_40 (by decide +kernel) (by decide +kernel) (by decide +kernel) (by decide +kernel) (lw_c11 hfl hC hI hce hsl hP hS hl kk)
  · exact lv_tableIn (off := 970) (tgt := 1010) hx hb dL_law_40 (by decide +kernel) (by decide +kernel) (by decide +kernel) (by decide +kernel) (lw_c12 hfl hC hI hce hsl hP hS hl kk)
  · exact lv_tableIn (off := 1026) (tgt := 1066) hx hb dL_law_40 (by decide +kernel) (by decide +kernel) (by decide +kernel) (by decide +kernel) (lw_c13 hfl hC hI hce hsl hP hS hl kk)
  · exact lv_tableIn (off := 1094) (tgt := 1134) hx hb dL_law_40 (by decide +kernel) (by decide +kernel) (by decide +kernel) (by decide +kernel) (lw_c14 hfl hC hI hce hsl hP hS hl kk)
  · exact lv_tableIn (off := 1107) (tgt := 1147) hx hb dL_law_40 (by decide +kernel) (by decide +kernel) (by decide +kernel) (by decide +kernel) (lw_c15 hfl hC hI hce hsl hP hS hl kk)
  · exact lv_tableIn (off := 1175) (tgt := 1215) hx hb dL_law_40 (by decide +kernel) (by decide +kernel) (by decide +kernel) (by decide +kernel) (lw_c16 hfl hC hI hce hsl hP hS hl kk)
  · exact lv_tableIn (off := 1243) (tgt := 1283) hx hb dL_law_40 (by decide +kernel) (by decide +kernel) (by decide +kernel) (by decide +kernel) (lw_c17 hfl hC hI hce hsl hP hS hl kk)
  · exact lv_tableIn (off := 1311) (tgt := 1351) hx hb dL_law_40 (by decide +kernel) (by decide +kernel) (by decide +kernel) (by decide +kernel) (lw_c18 hfl hC hI hce hsl hP hS hl kk)
  · exact lv_tableIn (off := 1367) (tgt := 1407) hx hb dL_law_40 (by decide +kernel) (by decide +kernel) (by decide +kernel) (by decide +kernel) (lw_c19 hfl hC hI hce hsl hP hS hl kk)
  · exact lv_tableIn (off := 1423) (tgt := 1463) hx hb dL_law_40 (by decide +kernel) (by decide +kernel) (by decide +kernel) (by decide +kernel) (lw_c20 hfl hC hI hce hsl hP hS hl kk)
  · exact lv_tableIn (off := 1464) (tgt := 1504) hx hb dL_law_40 (by decide +kernel) (by decide +kernel) (by decide +kernel) (by decide +kernel) (lw_c21 hfl hC hI hce hsl hP hS hl kk)
  · exact lv_tableIn (off := 1520) (tgt := 1560) hx hb dL_law_40 (by decide +kernel) (by decide +kernel) (by decide +kernel) (by decide +kernel) (lw_c22 hfl hC hI hce hsl hP hS hl kk)
  · exact lv_tableIn (off := 1588) (tgt := 1628) hx hb dL_law_40 (by decide +kernel) (by decide +kernel) (by decide +kernel) (by decide +kernel) (lw_c23 hfl hC hI hce hsl hP hS hl kk)
  · exact lv_tableIn (off := 1684) (tgt := 1724) hx hb dL_law_40 (by decide +kernel) (by decide +kernel) (by decide +kernel) (by decide +kernel) (lw_c24 hfl hC hI hce hsl hP hS hl kk)
  · exact lv_tableIn (off := 1740) (tgt := 1780) hx hb dL_law_40 (by decide +kernel) (by decide +kernel) (by decide +kernel) (by decide +kernel) (lw_c25 hfl hC hI hce hsl hP hS hl kk)
  · exact lv_tableOut (tgt := 1794) hx hb dL_law_40 (Or.inr (by decide +kernel)) (by decide +kernel) (kk H locs ls _ _ (by omega) (by omega) (lv_sub hl [0, 4] rfl) hS)
  · exact lv_tableOut (tgt := 1794) hx hb dL_law_40 (Or.inr (by decide +kernel)) (by decide +kernel) (kk H locs ls _ _ (by omega) (by omega) (lv_sub hl [0, 4] rfl) hS)
  · exact lv_tableOut (tgt := 1794) hx hb dL_law_40 (Or.inr (by decide +kernel)) (by decide +kernel) (kk H locs ls _ _ (by omega) (by omega) (lv_sub hl [0, 4] rfl) hS)
  · exact lv_tableOut (tgt := 1794) hx hb dL_law_40 (Or.inr (by decide +kernel)) (by decide +kernel) (kk H locs ls _ _ (by omega) (by omega) (lv_sub hl [0, 4] rfl) hS)
  · exact lv_tableOut (tgt := 1794) hx hb dL_law_40 (Or.inr (by decide +kernel)) (by decide +kernel) (kk H locs ls _ _ (by omega) (by omega) (lv_sub hl [0, 4] rfl) hS)
  · exact lv_tableOut (tgt := 1794) hx hb dL_law_40 (Or.inr (by decide +kernel)) (by decide +kernel) (kk H locs ls _ _ (by omega) (by omega) (lv_sub hl [0, 4] rfl) hS)
set_option maxRecDepth 100000 in
set_option maxHeartbeats 1000000 in
/-- from the entry to the end -/
theorem lw_main {p : Program} {l : Launch} {e : Env} {s : State} {m : MethodId} {below : List Frame} {meth : Method} {c : Code} {Q : State → Prop} {D : va_G} {cy : Nat → ClassId} {b : Nat} {xs : Nat → Int32} {lo : Nat} {L : Nat} (hL : L ≤ 6) (hfl : l.stackTraces = false) (hC : LC D cy p s m c b L xs lo) {ls : Array Slot} (hl : lv_has ls 9 [(0, .ref b)])
    (kend : ∀ (H : Heap) (locs : List Loc) (ls : Array Slot) (cells slots : Nat), cells ≤ 3000 → slots ≤ 9000 → va_S (fun q : Nat => lo ≤ q) s.heap H locs → W p l e room_1 s m #[Value.ref b] below meth c H locs cells slots Q (F0 m 1800 ls [])) : W p l e room_1 s m #[Value.ref b] below meth c s.heap [] 0 0 Q (F0 m 0 ls []) := by
  obtain ⟨hx, hb, hml, hown, hts, htl, hKI, hXK, hZ, hY, hX, hbs, hlo⟩ := id hC
  have hbl : b < lo := by omega
  have hK : KK D cy s := hKI.1
  have hS : va_S (fun q : Nat => lo ≤ q) s.heap s.heap [] := va_S.rf
  obtain ⟨w, -⟩ : ∃ w : Nat → va_E, w = w := ⟨fun _ => .inr (0, []), rfl⟩
  have hP : va_P D vwCl (rl lo 0 w) s.heap := rl_P (fun a h1 h2 => absurd h2 (by omega))
  obtain ⟨o, ho⟩ : ∃ o, o = lo := ⟨_, rfl⟩
  obtain ⟨q, hq⟩ : ∃ q, q = lo + 118 := ⟨_, rfl⟩
  obtain ⟨t, ht⟩ : ∃ t, t = lo + 140 := ⟨_, rfl⟩
  refine n_new (C := RX6) (T := TX6) (N := 11) (ci := 6) (fs := [.null, .null, .null, .null, .null, .null, .int 0, .int 0, .int 0, .int 0, .int 0]) (q0 := o) hx hb htl wl_wsX60 tyX6 tyX6_ok hown (htl (.classLink RL 8 RX6) (by decide +kernel)) (htl (.instantiable RX6 11) (by decide +kernel)) (htl (.initialized RX6) (by decide +kernel)) hK.1 hP hS (by omega) (by omega) (by omega) rfl (fun j hj => by rcases (by omega : j = 0 ∨ j = 1 ∨ j = 2 ∨ j = 3 ∨ j = 4 ∨ j = 5 ∨ j = 6 ∨ j = 7 ∨ j = 8 ∨ j = 9 ∨ j = 10) with rfl | rfl | rfl | rfl | rfl | rfl | rfl | rfl | rfl | rfl | rfl <;> rfl) (by show _ ≤ 662673; omega) (by show _ ≤ 7114216; omega) dL_law_0 (fun H hP hS => ?_)
  refine lv_dup hx hb dL_law_3 rfl ?_
  refine x_sz (k := 0) (by omega) hP (fun hz => ?_)
  refine x_callv (va_runI (As := []) (rest := [.ref o]) ⟨hx, hb, hml, hown, hts⟩ (c_X6_init l D cy lo (0 + 1) w o (by omega) (by omega)) (cwI 0 hts gL_law_X6_init rfl rfl rfl (htl (.initialized RX6) (by decide +kernel)) (htl (.methodLink RL 90 yX6_init) (by decide +kernel)) (htl (.instanceMethod yX6_init) (by decide +kernel)) rfl (by decide +kernel) ⟨Nat.le_of_ble_eq_true rfl, Nat.le_of_ble_eq_true rfl⟩) (preSN hz hP hKI) rfl rfl hl.1 rfl (lv_room (Nat.le_of_ble_eq_true rfl)) dL_law_4 ⟨by show _ ≤ 662673; omega, by show _ ≤ 7114216; omega⟩) hS (fun H locs hP hS => ?_)
  refine x_gen hP (fun u eu hP => ?_)
  refine lv_astore_n (lv' := [(1, .ref o), (0, .ref b)]) hx hb dL_law_7 rfl hl (by decide) rfl (fun ls hl => ?_)
  refine n_new (C := RX8) (T := TX8) (N := 8) (ci := 8) (fs := [.int 0, .null, .null, .null, .int 0, .int 0, .int 0, .int 0]) (q0 := q) hx hb htl wl_wsX80 tyX8 tyX8_ok hown (htl (.classLink RL 91 RX8) (by decide +kernel)) (htl (.instantiable RX8 8) (by decide +kernel)) (htl (.initialized RX8) (by decide +kernel)) hK.1 hP hS (by omega) (by omega) (by omega) rfl (fun j hj => by rcases (by omega : j = 0 ∨ j = 1 ∨ j = 2 ∨ j = 3 ∨ j = 4 ∨ j = 5 ∨ j = 6 ∨ j = 7) with rfl | rfl | rfl | rfl | rfl | rfl | rfl | rfl <;> rfl) (by show _ ≤ 662673; omega) (by show _ ≤ 7114216; omega) dL_law_8 (fun H hP hS => ?_)
  refine lv_dup hx hb dL_law_11 rfl ?_
  refine x_sz (k := 118) (by omega) hP (fun hz => ?_)
  refine x_callN (va_runI (As := []) (rest := [.ref q]) ⟨hx, hb, hml, hown, hts⟩ (c_X8_init l D cy lo (0 + 1 + 117 + 1) u q (by omega) (by omega)) (cwI 0 hts gL_law_X8_init rfl rfl rfl (htl (.initialized RX8) (by decide +kernel)) (htl (.methodLink RL 93 yX8_init) (by decide +kernel)) (htl (.instanceMethod yX8_init) (by decide +kernel)) rfl (by decide +kernel) ⟨Nat.le_of_ble_eq_true rfl, Nat.le_of_ble_eq_true rfl⟩) (preSN hz hP hKI) rfl rfl hl.1 rfl (lv_room (Nat.le_of_ble_eq_true rfl)) dL_law_12 ⟨by show _ ≤ 662673; omega, by show _ ≤ 7114216; omega⟩) hS (fun v H locs hX2 hP hz hS => ?_)
  obtain ⟨hM, hB, hF, hv⟩ := hX2
  refine lv_astore_n (lv' := [(2, .ref q), (1, .ref o), (0, .ref b)]) hx hb dL_law_15 rfl hl (by decide) rfl (fun ls hl => ?_)
  refine lv_iconst (v := 1) hx hb dL_law_16 (by decide) ?_
  refine x_newl hx hb (htl (.arrayClass .long) (by decide +kernel)) hK.1 hP hS (by omega) (by omega) 7 rfl (by decide) (N := 1) (by decide) (by decide) (by show _ ≤ 662673; omega) (by show _ ≤ 7114216; omega) dL_law_17 (fun H hP hS => ?_)
  rw [show lo + (0 + 1 + 117 + 1 + 1 + 15 + 1 + 1 + 1 + 1 + 1) = t by omega] at hP ⊢
  refine lv_astore_n (lv' := [(3, .ref t), (2, .ref q), (1, .ref o), (0, .ref b)]) hx hb dL_law_19 rfl hl (by decide) rfl (fun ls hl => ?_)
  refine lv_iconst (v := 0) hx hb dL_law_20 (by decide) ?_
  refine lv_istore (lv' := [(4, .int (0 : Int32)), (3, .ref t), (2, .ref q), (1, .ref o), (0, .ref b)]) hx hb dL_law_21 hl (by decide) rfl (fun ls hl => ?_)
  refine lv_iload hx hb dL_law_23 (lv_at hl 0 rfl) ?_
  refine lv_aload_n hx hb dL_law_25 rfl (lv_at hl 4 rfl) ?_
  refine va_slen hx hb hX hbs (by show ¬ lo ≤ b; omega) hS dL_law_26 ?_
  refine lv_bipush (v := 6) hx hb dL_law_27 (by decide) ?_
  refine lv_isub hx hb dL_law_29 ?_
  have hlt : ∀ L, L ≤ 6 → L ≠ 6 → Int32.ofNat L - 6 < 0 := fun L h1 h2 => by
    rcases (by omega : L = 0 ∨ L = 1 ∨ L = 2 ∨ L = 3 ∨ L = 4 ∨ L = 5) with rfl | rfl | rfl | rfl | rfl | rfl <;> decide
  refine lv_icmp_gt (tgt := 1800) hx hb dL_law_30 (by decide) (fun _ => ?_) (fun h9 => ?_)
  · exact kend _ _ _ _ _ (by omega) (by omega) hS
  · have h6 : L = 6 := by
      by_cases e : L = 6
      · exact e
      · exact absurd (hlt L hL e) h9
    subst h6
    have hI : IV cy (va_up v t (.inl (cy 7, 1, .inr (.inl fun _ => 0)))) lo 141 o q t := ⟨ho, hq, ht, rfl, pq_ext (w := w) (fun a h1 h2 => (xu_ne (by omega)).trans ((hv a (by omega)).trans (congrFun eu a))), hM.o (by omega) (by omega) (by omega), hB.o (by omega), hF.o (by omega), xu_same _ _ _⟩
    exact lw_turn hfl hC hI (by omega) (by omega) hP hS (lv_sub hl [4, 3, 2, 1, 0] rfl) kend
set_option maxRecDepth 100000 in
set_option maxHeartbeats 1000000 in
/-- from the entry to the end -/
theorem whole_start {p : Program} {e : Env} {s : State} {m : MethodId} {below : List Frame} {meth : Method} {c : Code} (l : Launch) (hflags : l.flags = flags0) {b L : Nat} {xs : Nat → Int32} (hL : L ≤ 6) (C0 : lw_At p s m meth c b L xs) : W p l e room_1 s m #[Value.ref b] below meth c s.heap [] 0 0 (lw_Z below #[Value.ref b] s) (entryFrame m ([Value.ref b] : List Value).toArray 9) := by
  obtain ⟨hx, hb, hr, hml, hown, hts, hX, hbl, hlocks, hgv⟩ := id C0
  have hd0 := Drawn.sameBut.refl s.drawn lw_cs
  have hfl : l.stackTraces = false := by
    unfold Launch.stackTraces
    rw [hflags]
    decide
  refine W.base ?_
  have htD : ∀ w ∈ lw_tbl, w.before #[Value.ref b] (s.setDrawn s.drawn) = true := dr_words hts _
  have hgD : (Jvm.Cond.and given_1 narrow_1).before #[Value.ref b] (s.setDrawn s.drawn) = true := (Cond.before_setDrawn _ s _ _).trans hgv
  obtain ⟨D, cy, hKI⟩ := KI_of htD
  have hC : LC D cy p (s.setDrawn s.drawn) m c b L xs s.heap.size := ⟨hx, hb, hml, hown, fun w hw => htD w (wl_law w hw), htD, hKI, XK_of hgD htD, ZQ_of hgD htD, YK_of hgD htD, hX, hbl, rfl⟩
  have hl := lv_entry ([.ref b]) (n := 9) (Nat.le_of_ble_eq_true rfl)
  rw [lg_entry_eq]
  generalize (lg_sl ([.ref b]) ++ List.replicate (9 - (lg_sl ([.ref b])).length) Slot.unset).toArray = ls at hl ⊢
  have hl : lv_has ls 9 [(0, .ref b)] := hl
  refine lw_main hL hfl hC hl (fun H locs ls cells slots hce hsl hS => ?_)
  refine lv_iconst (v := 1) hx hb dL_law_1800 (by decide) ?_
  refine W.widen (k := 662673) (n := 7114216) (by omega) (by omega) ?_
  refine va_forget (fun q hq => hS.2.2 q hq) ?_
  exact lw_ret hd0 hx hb hr hlocks dL_law_1801
