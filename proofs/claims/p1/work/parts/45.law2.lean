/-! the law's cases -/
set_option maxRecDepth 100000 in
set_option maxHeartbeats 1000000 in
/-- case 9: tank -/
theorem lw_c9 {p : Program} {l : Launch} {e : Env} {s : State} {m : MethodId} {below : List Frame} {meth : Method} {c : Code} {Q : State → Prop} {D : va_G} {cy : Nat → ClassId} {b : Nat} {xs : Nat → Int32} {lo n o q t : Nat} {w : Nat → va_E} (hfl : l.stackTraces = false) (hC : LC D cy p s m c b 6 xs lo) (hI : IV cy w lo n o q t) {H : Heap} {locs : List Loc} {ls : Array Slot} {cells slots : Nat} (hce : s.heap.size + cells = lo + n) (hsl : slots ≤ 2000) (hP : va_P D vwCl (rl lo n w) H) (hS : va_S (fun q : Nat => lo ≤ q) s.heap H locs) (hl : lv_has ls 9 [(0, .ref b), (1, .ref o), (2, .ref q), (3, .ref t), (4, .int (0 : Int32))])
    (kk : ∀ (H : Heap) (locs : List Loc) (ls : Array Slot) (cells slots : Nat), cells ≤ 3000 → slots ≤ 9000 → lv_has ls 9 [(0, .ref b), (4, .int (0 : Int32))] → va_S (fun q : Nat => lo ≤ q) s.heap H locs → W p l e room_1 s m #[Value.ref b] below meth c H locs cells slots Q (F0 m 1794 ls [])) : W p l e room_1 s m #[Value.ref b] below meth c H locs cells slots Q (F0 m 830 ls []) := by
  obtain ⟨hx, hb, hml, hown, hts, htl, hKI, hXK, hZ, hY, hX, hbs, hlo⟩ := id hC
  have hbl : b < lo := by omega
  have hK : KK D cy s := hKI.1
  obtain ⟨ho, hq, ht, hn, hpw, hM, hB, hF, ht0⟩ := id hI
  refine lv_aload_n hx hb dL_law_830 rfl (lv_at hl 1 rfl) ?_
  refine lv_aload_n hx hb dL_law_831 rfl (lv_at hl 0 rfl) ?_
  refine lv_iload hx hb dL_law_832 (lv_at hl 4 rfl) ?_
  refine lv_iconst (v := 1) hx hb dL_law_834 (by decide) ?_
  refine lv_iadd hx hb dL_law_835 ?_
  refine x_sld hx hb hX hbs hbl hS (i := 1) (by decide) (by unfold vp_in; decide) dL_law_836 ?_
  refine lv_aload_n hx hb dL_law_837 rfl (lv_at hl 3 rfl) ?_
  have hP1 : va_P D vwCl (rl lo n (pw cy w o G0 G0 P0)) H := by rw [hpw]; exact hP
  refine x_szn (by omega) (by omega) hP (fun hz0 => ?_)
  refine x_callY (vx_runSW (As := [.ref o, .int (xs 1), .ref t]) (rest := []) ⟨hx, hb, hml, hown, hts⟩ (c_L_tank l hfl D cy lo n w o t (by omega) (by omega) (by omega) (by omega) (by omega) _ ht0 (xs 1)) (vx_cwSW 3 hts gL_law_L_tank rfl rfl rfl (by decide +kernel) ⟨Nat.le_of_ble_eq_true rfl, Nat.le_of_ble_eq_true rfl⟩) (preSY hz0 hP1 hK hXK (hZ.kept hS.2.1) hY) rfl rfl hl.1 rfl (lv_room (Nat.le_of_ble_eq_true rfl)) dL_law_838 ⟨by show _ ≤ 662673; omega, by show _ ≤ 7114216; omega⟩) hS (fun u H locs hf hu hP hzS hS => ?_)
  have hM : MM cy u q 0 5 0 0 0 := hM.ext (fun a ha => hu a (by omega) (by omega))
  have hB : LB cy u q := hB.ext (hu _ (by omega) (by omega))
  have hF : FM cy u (q + 1) 0 300 := hF.ext (fun a h1 h2 => hu a (by omega) (by omega))
  refine lv_istore (lv' := [(5, .int (r_tank (xs 1)).1), (0, .ref b), (1, .ref o), (2, .ref q), (3, .ref t), (4, .int (0 : Int32))]) hx hb dL_law_841 hl (by decide) rfl (fun ls hl => ?_)
  refine lv_aload_n hx hb dL_law_843 rfl (lv_at hl 3 rfl) ?_
  refine lv_aload_n hx hb dL_law_844 rfl (lv_at hl 1 rfl) ?_
  refine lv_iload hx hb dL_law_845 (lv_at hl 5 rfl) ?_
  refine lv_iconst (v := 1) hx hb dL_law_847 (by decide) ?_
  refine lv_iadd hx hb dL_law_848 ?_
  refine x_sld hx hb hX hbs hbl hS (i := 1) (by decide) (by unfold vp_in; decide) dL_law_849 ?_
  refine x_callx (va_runV (As := [.int (xs 1)]) (rest := []) ⟨hx, hb, hml, hown, hts⟩ (c_X8_tank l D cy lo n u q (by omega) (by omega) 0 hM hB hF (xs 1)) (cwV 1 hts gL_law_X8_tank rfl rfl rfl (by decide +kernel) ⟨Nat.le_of_ble_eq_true rfl, Nat.le_of_ble_eq_true rfl⟩) (preV hP hK (x_recv (ci := 8) (q := (RX8, TX8, 8)) hK.1 hP (by omega) (by omega) rfl hM.self)) rfl rfl hl.1 rfl (lv_room (Nat.le_of_ble_eq_true rfl)) dL_law_850 ⟨by show _ ≤ 662673; omega, by show _ ≤ 7114216; omega⟩) hS (fun v2 u2 H locs hX2 hP hS => ?_)
  obtain ⟨hth, hans, hu2⟩ := hX2
  obtain ⟨n2, hn2⟩ : ∃ n2, n2 = n := ⟨n, rfl⟩
  rw [← hn2] at hP
  refine lv_istore (lv' := [(6, .int v2), (5, .int (r_tank (xs 1)).1), (0, .ref b), (1, .ref o), (2, .ref q), (3, .ref t), (4, .int (0 : Int32))]) hx hb dL_law_853 hl (by decide) rfl (fun ls hl => ?_)
  refine lv_aload_n hx hb dL_law_855 rfl (lv_at hl 4 rfl) ?_
  obtain ⟨fs2, hfs2⟩ := hth
  refine x_calli (va_runV (As := []) (rest := []) ⟨hx, hb, hml, hown, hts⟩ (c_X8_thrown l D cy lo n2 u2 q (by omega) (by omega) _ fs2 hfs2) (cwV 0 hts gL_law_X8_thrown rfl rfl rfl (by decide +kernel) ⟨Nat.le_of_ble_eq_true rfl, Nat.le_of_ble_eq_true rfl⟩) (preV hP hK (x_recv (ci := 8) (q := (RX8, TX8, 8)) hK.1 hP (by omega) (by omega) rfl hfs2)) rfl rfl hl.1 rfl (lv_room (Nat.le_of_ble_eq_true rfl)) dL_law_856 ⟨by show _ ≤ 662673; omega, by show _ ≤ 7114216; omega⟩) hS (fun H locs hP hS => ?_)
  refine lv_iload hx hb dL_law_859 (lv_at hl 1 rfl) ?_
  refine lv_icmp_eq (tgt := 866) hx hb dL_law_861 (by decide) (fun _ => ?_) (fun h9 => absurd rfl h9)
  refine lv_iload hx hb dL_law_866 (lv_at hl 1 rfl) ?_
  refine lv_if_ne (tgt := 883) hx hb dL_law_868 (by decide) (fun _ => ?_) (fun h0 => ?_)
  · refine lv_goto (tgt := 1794) hx hb dL_law_883 (by decide) ?_
    exact kk H locs ls _ _ (by omega) (by omega) (lv_sub hl [2, 6] rfl) hS
  · refine lv_aload_n hx hb dL_law_871 rfl (lv_at hl 5 rfl) ?_
    refine lv_iconst (v := 0) hx hb dL_law_872 (by decide) ?_
    obtain ⟨f9, hf9, hg9⟩ := hf
    have hut : u2 t = .inl (cy 7, 1, .inr (.inl f9)) := (hu2 t (by omega)).trans hf9
    refine x_lald hx hb hK.1 hP (by omega) (by omega) 7 hut rfl (cl_of_nI (i := 0) rfl (by omega)) (vp_in_of_nI (i := 0) rfl (by omega) (by omega)) dL_law_873 ?_
    refine lv_iload hx hb dL_law_874 (lv_at hl 0 rfl) ?_
    refine lv_i2l (v := f9 0) hx hb dL_law_876 (by rw [hg9 h0, hans h0]) ?_
    refine W.lcmp hx hb dL_law_877 ?_
    rw [cmp_rf]
    refine lv_if_eq (tgt := 883) hx hb dL_law_878 (by decide) (fun _ => ?_) (fun h9 => absurd rfl h9)
    refine lv_goto (tgt := 1794) hx hb dL_law_883 (by decide) ?_
    exact kk H locs ls _ _ (by omega) (by omega) (lv_sub hl [2, 6] rfl) hS
set_option maxRecDepth 100000 in
set_option maxHeartbeats 1000000 in
/-- case 10: shares -/
theorem lw_c10 {p : Program} {l : Launch} {e : Env} {s : State} {m : MethodId} {below : List Frame} {meth : Method} {c : Code} {Q : State → Prop} {D : va_G} {cy : Nat → ClassId} {b : Nat} {xs : Nat → Int32} {lo n o q t : Nat} {w : Nat → va_E} (hfl : l.stackTraces = false) (hC : LC D cy p s m c b 6 xs lo) (hI : IV cy w lo n o q t) {H : Heap} {locs : List Loc} {ls : Array Slot} {cells slots : Nat} (hce : s.heap.size + cells = lo + n) (hsl : slots ≤ 2000) (hP : va_P D vwCl (rl lo n w) H) (hS : va_S (fun q : Nat => lo ≤ q) s.heap H locs) (hl : lv_has ls 9 [(0, .ref b), (1, .ref o), (2, .ref q), (3, .ref t), (4, .int (0 : Int32))])
    (kk : ∀ (H : Heap) (locs : List Loc) (ls : Array Slot) (cells slots : Nat), cells ≤ 3000 → slots ≤ 9000 → lv_has ls 9 [(0, .ref b), (4, .int (0 : Int32))] → va_S (fun q : Nat => lo ≤ q) s.heap H locs → W p l e room_1 s m #[Value.ref b] below meth c H locs cells slots Q (F0 m 1794 ls [])) : W p l e room_1 s m #[Value.ref b] below meth c H locs cells slots Q (F0 m 886 ls []) := by
  obtain ⟨hx, hb, hml, hown, hts, htl, hKI, hXK, hZ, hY, hX, hbs, hlo⟩ := id hC
  have hbl : b < lo := by omega
  have hK : KK D cy s := hKI.1
  obtain ⟨ho, hq, ht, hn, hpw, hM, hB, hF, ht0⟩ := id hI
  refine lv_aload_n hx hb dL_law_886 rfl (lv_at hl 1 rfl) ?_
  refine lv_aload_n hx hb dL_law_887 rfl (lv_at hl 0 rfl) ?_
  refine lv_iload hx hb dL_law_888 (lv_at hl 4 rfl) ?_
  refine lv_iconst (v := 1) hx hb dL_law_890 (by decide) ?_
  refine lv_iadd hx hb dL_law_891 ?_
  refine x_sld hx hb hX hbs hbl hS (i := 1) (by decide) (by unfold vp_in; decide) dL_law_892 ?_
  refine lv_aload_n hx hb dL_law_893 rfl (lv_at hl 0 rfl) ?_
  refine lv_iload hx hb dL_law_894 (lv_at hl 4 rfl) ?_
  refine lv_iconst (v := 2) hx hb dL_law_896 (by decide) ?_
  refine lv_iadd hx hb dL_law_897 ?_
  refine x_sld hx hb hX hbs hbl hS (i := 2) (by decide) (by unfold vp_in; decide) dL_law_898 ?_
  refine lv_aload_n hx hb dL_law_899 rfl (lv_at hl 3 rfl) ?_
  have hP1 : va_P D vwCl (rl lo n (pw cy w o G0 G0 P0)) H := by rw [hpw]; exact hP
  refine x_szn (by omega) (by omega) hP (fun hz0 => ?_)
  refine x_callY (vx_runSW (As := [.ref o, .int (xs 1), .int (xs 2), .ref t]) (rest := []) ⟨hx, hb, hml, hown, hts⟩ (c_L_shares l hfl D cy lo n w o t (by omega) (by omega) (by omega) (by omega) (by omega) _ ht0 (xs 1) (xs 2)) (vx_cwSW 4 hts gL_law_L_shares rfl rfl rfl (by decide +kernel) ⟨Nat.le_of_ble_eq_true rfl, Nat.le_of_ble_eq_true rfl⟩) (preSY hz0 hP1 hK hXK (hZ.kept hS.2.1) hY) rfl rfl hl.1 rfl (lv_room (Nat.le_of_ble_eq_true rfl)) dL_law_900 ⟨by show _ ≤ 662673; omega, by show _ ≤ 7114216; omega⟩) hS (fun u H locs hf hu hP hzS hS => ?_)
  have hM : MM cy u q 0 5 0 0 0 := hM.ext (fun a ha => hu a (by omega) (by omega))
  have hB : LB cy u q := hB.ext (hu _ (by omega) (by omega))
  have hF : FM cy u (q + 1) 0 300 := hF.ext (fun a h1 h2 => hu a (by omega) (by omega))
  refine lv_istore (lv' := [(5, .int (r_shares (xs 1) (xs 2)).1), (0, .ref b), (1, .ref o), (2, .ref q), (3, .ref t), (4, .int (0 : Int32))]) hx hb dL_law_903 hl (by decide) rfl (fun ls hl => ?_)
  refine lv_aload_n hx hb dL_law_905 rfl (lv_at hl 3 rfl) ?_
  refine lv_aload_n hx hb dL_law_906 rfl (lv_at hl 1 rfl) ?_
  refine lv_iload hx hb dL_law_907 (lv_at hl 5 rfl) ?_
  refine lv_iconst (v := 1) hx hb dL_law_909 (by decide) ?_
  refine lv_iadd hx hb dL_law_910 ?_
  refine x_sld hx hb hX hbs hbl hS (i := 1) (by decide) (by unfold vp_in; decide) dL_law_911 ?_
  refine lv_aload_n hx hb dL_law_912 rfl (lv_at hl 1 rfl) ?_
  refine lv_iload hx hb dL_law_913 (lv_at hl 5 rfl) ?_
  refine lv_iconst (v := 2) hx hb dL_law_915 (by decide) ?_
  refine lv_iadd hx hb dL_law_916 ?_
  refine x_sld hx hb hX hbs hbl hS (i := 2) (by decide) (by unfold vp_in; decide) dL_law_917 ?_
  refine x_callx (va_runV (As := [.int (xs 1), .int (xs 2)]) (rest := []) ⟨hx, hb, hml, hown, hts⟩ (c_X8_shares l D cy lo n u q (by omega) (by omega) 0 hM hB hF (xs 1) (xs 2)) (cwV 2 hts gL_law_X8_shares rfl rfl rfl (by decide +kernel) ⟨Nat.le_of_ble_eq_true rfl, Nat.le_of_ble_eq_true rfl⟩) (preV hP hK (x_recv (ci := 8) (q := (RX8, TX8, 8)) hK.1 hP (by omega) (by omega) rfl hM.self)) rfl rfl hl.1 rfl (lv_room (Nat.le_of_ble_eq_true rfl)) dL_law_918 ⟨by show _ ≤ 662673; omega, by show _ ≤ 7114216; omega⟩) hS (fun v2 u2 H locs hX2 hP hS => ?_)
  obtain ⟨hth, hans, hu2⟩ := hX2
  obtain ⟨n2, hn2⟩ : ∃ n2, n2 = n := ⟨n, rfl⟩
  rw [← hn2] at hP
  refine lv_istore (lv' := [(6, .int v2), (5, .int (r_shares (xs 1) (xs 2)).1), (0, .ref b), (1, .ref o), (2, .ref q), (3, .ref t), (4, .int (0 : Int32))]) hx hb dL_law_921 hl (by decide) rfl (fun ls hl => ?_)
  refine lv_aload_n hx hb dL_law_923 rfl (lv_at hl 4 rfl) ?_
  obtain ⟨fs2, hfs2⟩ := hth
  refine x_calli (va_runV (As := []) (rest := []) ⟨hx, hb, hml, hown, hts⟩ (c_X8_thrown l D cy lo n2 u2 q (by omega) (by omega) _ fs2 hfs2) (cwV 0 hts gL_law_X8_thrown rfl rfl rfl (by decide +kernel) ⟨Nat.le_of_ble_eq_true rfl, Nat.le_of_ble_eq_true rfl⟩) (preV hP hK (x_recv (ci := 8) (q := (RX8, TX8, 8)) hK.1 hP (by omega) (by omega) rfl hfs2)) rfl rfl hl.1 rfl (lv_room (Nat.le_of_ble_eq_true rfl)) dL_law_924 ⟨by show _ ≤ 662673; omega, by show _ ≤ 7114216; omega⟩) hS (fun H locs hP hS => ?_)
  refine lv_iload hx hb dL_law_927 (lv_at hl 1 rfl) ?_
  refine lv_icmp_eq (tgt := 934) hx hb dL_law_929 (by decide) (fun _ => ?_) (fun h9 => absurd rfl h9)
  refine lv_iload hx hb dL_law_934 (lv_at hl 1 rfl) ?_
  refine lv_if_ne (tgt := 951) hx hb dL_law_936 (by decide) (fun _ => ?_) (fun h0 => ?_)
  · refine lv_goto (tgt := 1794) hx hb dL_law_951 (by decide) ?_
    exact kk H locs ls _ _ (by omega) (by omega) (lv_sub hl [2, 6] rfl) hS
  · refine lv_aload_n hx hb dL_law_939 rfl (lv_at hl 5 rfl) ?_
    refine lv_iconst (v := 0) hx hb dL_law_940 (by decide) ?_
    obtain ⟨f9, hf9, hg9⟩ := hf
    have hut : u2 t = .inl (cy 7, 1, .inr (.inl f9)) := (hu2 t (by omega)).trans hf9
    refine x_lald hx hb hK.1 hP (by omega) (by omega) 7 hut rfl (cl_of_nI (i := 0) rfl (by omega)) (vp_in_of_nI (i := 0) rfl (by omega) (by omega)) dL_law_941 ?_
    refine lv_iload hx hb dL_law_942 (lv_at hl 0 rfl) ?_
    refine lv_i2l (v := f9 0) hx hb dL_law_944 (by rw [hg9 h0, hans h0]) ?_
    refine W.lcmp hx hb dL_law_945 ?_
    rw [cmp_rf]
    refine lv_if_eq (tgt := 951) hx hb dL_law_946 (by decide) (fun _ => ?_) (fun h9 => absurd rfl h9)
    refine lv_goto (tgt := 1794) hx hb dL_law_951 (by decide) ?_
    exact kk H locs ls _ _ (by omega) (by omega) (lv_sub hl [2, 6] rfl) hS
set_option maxRecDepth 100000 in
set_option maxHeartbeats 1000000 in
/-- case 11: price -/
theorem lw_c11 {p : Program} {l : Launch} {e : Env} {s : State} {m : MethodId} {below : List Frame} {meth : Method} {c : Code} {Q : State → Prop} {D : va_G} {cy : Nat → ClassId} {b : Nat} {xs : Nat → Int32} {lo n o q t : Nat} {w : Nat → va_E} (hfl : l.stackTraces = false) (hC : LC D cy p s m c b 6 xs lo) (hI : IV cy w lo n o q t) {H : Heap} {locs : List Loc} {ls : Array Slot} {cells slots : Nat} (hce : s.heap.size + cells = lo + n) (hsl : slots ≤ 2000) (hP : va_P D vwCl (rl lo n w) H) (hS : va_S (fun q : Nat => lo ≤ q) s.heap H locs) (hl : lv_has ls 9 [(0, .ref b), (1, .ref o), (2, .ref q), (3, .ref t), (4, .int (0 : Int32))])
    (kk : ∀ (H : Heap) (locs : List Loc) (ls : Array Slot) (cells slots : Nat), cells ≤ 3000 → slots ≤ 9000 → lv_has ls 9 [(0, .ref b), (4, .int (0 : Int32))] → va_S (fun q : Nat => lo ≤ q) s.heap H locs → W p l e room_1 s m #[Value.ref b] below meth c H locs cells slots Q (F0 m 1794 ls [])) : W p l e room_1 s m #[Value.ref b] below meth c H locs cells slots Q (F0 m 954 ls []) := by
  obtain ⟨hx, hb, hml, hown, hts, htl, hKI, hXK, hZ, hY, hX, hbs, hlo⟩ := id hC
  have hbl : b < lo := by omega
  have hK : KK D cy s := hKI.1
  obtain ⟨ho, hq, ht, hn, hpw, hM, hB, hF, ht0⟩ := id hI
  refine lv_aload_n hx hb dL_law_954 rfl (lv_at hl 1 rfl) ?_
  refine lv_aload_n hx hb dL_law_955 rfl (lv_at hl 0 rfl) ?_
  refine lv_iload hx hb dL_law_956 (lv_at hl 4 rfl) ?_
  refine lv_iconst (v := 1) hx hb dL_law_958 (by decide) ?_
  refine lv_iadd hx hb dL_law_959 ?_
  refine x_sld hx hb hX hbs hbl hS (i := 1) (by decide) (by unfold vp_in; decide) dL_law_960 ?_
  refine lv_aload_n hx hb dL_law_961 rfl (lv_at hl 3 rfl) ?_
  have hP1 : va_P D vwCl (rl lo n (pw cy w o G0 G0 P0)) H := by rw [hpw]; exact hP
  refine x_szn (by omega) (by omega) hP (fun hz0 => ?_)
  refine x_callY (vx_runSW (As := [.ref o, .int (xs 1), .ref t]) (rest := []) ⟨hx, hb, hml, hown, hts⟩ (c_L_price l hfl D cy lo n w o t (by omega) (by omega) (by omega) (by omega) (by omega) _ ht0 (xs 1)) (vx_cwSW 3 hts gL_law_L_price rfl rfl rfl (by decide +kernel) ⟨Nat.le_of_ble_eq_true rfl, Nat.le_of_ble_eq_true rfl⟩) (preSY hz0 hP1 hK hXK (hZ.kept hS.2.1) hY) rfl rfl hl.1 rfl (lv_room (Nat.le_of_ble_eq_true rfl)) dL_law_962 ⟨by show _ ≤ 662673; omega, by show _ ≤ 7114216; omega⟩) hS (fun u H locs hf hu hP hzS hS => ?_)
  have hM : MM cy u q 0 5 0 0 0 := hM.ext (fun a ha => hu a (by omega) (by omega))
  have hB : LB cy u q := hB.ext (hu _ (by omega) (by omega))
  have hF : FM cy u (q + 1) 0 300 := hF.ext (fun a h1 h2 => hu a (by omega) (by omega))
  refine lv_istore (lv' := [(5, .int (r_price (xs 1)).1), (0, .ref b), (1, .ref o), (2, .ref q), (3, .ref t), (4, .int (0 : Int32))]) hx hb dL_law_965 hl (by decide) rfl (fun ls hl => ?_)
  refine lv_aload_n hx hb dL_law_967 rfl (lv_at hl 3 rfl) ?_
  refine lv_aload_n hx hb dL_law_968 rfl (lv_at hl 1 rfl) ?_
  refine lv_iload hx hb dL_law_969 (lv_at hl 5 rfl) ?_
  refine lv_iconst (v := 1) hx hb dL_law_971 (by decide) ?_
  refine lv_iadd hx hb dL_law_972 ?_
  refine x_sld hx hb hX hbs hbl hS (i := 1) (by decide) (by unfold vp_in; decide) dL_law_973 ?_
  refine x_callx (va_runV (As := [.int (xs 1)]) (rest := []) ⟨hx, hb, hml, hown, hts⟩ (c_X8_price l D cy lo n u q (by omega) (by omega) 0 hM hB hF (xs 1)) (cwV 1 hts gL_law_X8_price rfl rfl rfl (by decide +kernel) ⟨Nat.le_of_ble_eq_true rfl, Nat.le_of_ble_eq_true rfl⟩) (preV hP hK (x_recv (ci := 8) (q := (RX8, TX8, 8)) hK.1 hP (by omega) (by omega) rfl hM.self)) rfl rfl hl.1 rfl (lv_room (Nat.le_of_ble_eq_true rfl)) dL_law_974 ⟨by show _ ≤ 662673; omega, by show _ ≤ 7114216; omega⟩) hS (fun v2 u2 H locs hX2 hP hS => ?_)
  obtain ⟨hth, hans, hu2⟩ := hX2
  obtain ⟨n2, hn2⟩ : ∃ n2, n2 = n := ⟨n, rfl⟩
  rw [← hn2] at hP
  refine lv_istore (lv' := [(6, .int v2), (5, .int (r_price (xs 1)).1), (0, .ref b), (1, .ref o), (2, .ref q), (3, .ref t), (4, .int (0 : Int32))]) hx hb dL_law_977 hl (by decide) rfl (fun ls hl => ?_)
  refine lv_aload_n hx hb dL_law_979 rfl (lv_at hl 4 rfl) ?_
  obtain ⟨fs2, hfs2⟩ := hth
  refine x_calli (va_runV (As := []) (rest := []) ⟨hx, hb, hml, hown, hts⟩ (c_X8_thrown l D cy lo n2 u2 q (by omega) (by omega) _ fs2 hfs2) (cwV 0 hts gL_law_X8_thrown rfl rfl rfl (by decide +kernel) ⟨Nat.le_of_ble_eq_true rfl, Nat.le_of_ble_eq_true rfl⟩) (preV hP hK (x_recv (ci := 8) (q := (RX8, TX8, 8)) hK.1 hP (by omega) (by omega) rfl hfs2)) rfl rfl hl.1 rfl (lv_room (Nat.le_of_ble_eq_true rfl)) dL_law_980 ⟨by show _ ≤ 662673; omega, by show _ ≤ 7114216; omega⟩) hS (fun H locs hP hS => ?_)
  refine lv_iload hx hb dL_law_983 (lv_at hl 1 rfl) ?_
  refine lv_icmp_eq (tgt := 990) hx hb dL_law_985 (by decide) (fun _ => ?_) (fun h9 => absurd rfl h9)
  refine lv_iload hx hb dL_law_990 (lv_at hl 1 rfl) ?_
  refine lv_if_ne (tgt := 1007) hx hb dL_law_992 (by decide) (fun _ => ?_) (fun h0 => ?_)
  · refine lv_goto (tgt := 1794) hx hb dL_law_1007 (by decide) ?_
    exact kk H locs ls _ _ (by omega) (by omega) (lv_sub hl [2, 6] rfl) hS
  · refine lv_aload_n hx hb dL_law_995 rfl (lv_at hl 5 rfl) ?_
    refine lv_iconst (v := 0) hx hb dL_law_996 (by decide) ?_
    obtain ⟨f9, hf9, hg9⟩ := hf
    have hut : u2 t = .inl (cy 7, 1, .inr (.inl f9)) := (hu2 t (by omega)).trans hf9
    refine x_lald hx hb hK.1 hP (by omega) (by omega) 7 hut rfl (cl_of_nI (i := 0) rfl (by omega)) (vp_in_of_nI (i := 0) rfl (by omega) (by omega)) dL_law_997 ?_
    refine lv_iload hx hb dL_law_998 (lv_at hl 0 rfl) ?_
    refine lv_i2l (v := f9 0) hx hb dL_law_1000 (by rw [hg9 h0, hans h0]) ?_
    refine W.lcmp hx hb dL_law_1001 ?_
    rw [cmp_rf]
    refine lv_if_eq (tgt := 1007) hx hb dL_law_1002 (by decide) (fun _ => ?_) (fun h9 => absurd rfl h9)
    refine lv_goto (tgt := 1794) hx hb dL_law_1007 (by decide) ?_
    exact kk H locs ls _ _ (by omega) (by omega) (lv_sub hl [2, 6] rfl) hS
set_option maxRecDepth 100000 in
set_option maxHeartbeats 1000000 in
/-- case 12: pass -/
theorem lw_c12 {p : Program} {l : Launch} {e : Env} {s : State} {m : MethodId} {below : List Frame} {meth : Method} {c : Code} {Q : State → Prop} {D : va_G} {cy : Nat → ClassId} {b : Nat} {xs : Nat → Int32} {lo n o q t : Nat} {w : Nat → va_E} (hfl : l.stackTraces = false) (hC : LC D cy p s m c b 6 xs lo) (hI : IV cy w lo n o q t) {H : Heap} {locs : List Loc} {ls : Array Slot} {cells slots : Nat} (hce : s.heap.size + cells = lo + n) (hsl : slots ≤ 2000) (hP : va_P D vwCl (rl lo n w) H) (hS : va_S (fun q : Nat => lo ≤ q) s.heap H locs) (hl : lv_has ls 9 [(0, .ref b), (1, .ref o), (2, .ref q), (3, .ref t), (4, .int (0 : Int32))])
    (kk : ∀ (H : Heap) (locs : List Loc) (ls : Array Slot) (cells slots : Nat), cells ≤ 3000 → slots ≤ 9000 → lv_has ls 9 [(0, .ref b), (4, .int (0 : Int32))] → va_S (fun q : Nat => lo ≤ q) s.heap H locs → W p l e room_1 s m #[Value.ref b] below meth c H locs cells slots Q (F0 m 1794 ls [])) : W p l e room_1 s m #[Value.ref b] below meth c H locs cells slots Q (F0 m 1010 ls []) := by
  obtain ⟨hx, hb, hml, hown, hts, htl, hKI, hXK, hZ, hY, hX, hbs, hlo⟩ := id hC
  have hbl : b < lo := by omega
  have hK : KK D cy s := hKI.1
  obtain ⟨ho, hq, ht, hn, hpw, hM, hB, hF, ht0⟩ := id hI
  refine lv_aload_n hx hb dL_law_1010 rfl (lv_at hl 1 rfl) ?_
  refine lv_aload_n hx hb dL_law_1011 rfl (lv_at hl 0 rfl) ?_
  refine lv_iload hx hb dL_law_1012 (lv_at hl 4 rfl) ?_
  refine lv_iconst (v := 1) hx hb dL_law_1014 (by decide) ?_
  refine lv_iadd hx hb dL_law_1015 ?_
  refine x_sld hx hb hX hbs hbl hS (i := 1) (by decide) (by unfold vp_in; decide) dL_law_1016 ?_
  refine lv_aload_n hx hb dL_law_1017 rfl (lv_at hl 3 rfl) ?_
  have hP1 : va_P D vwCl (rl lo n (pw cy w o G0 G0 P0)) H := by rw [hpw]; exact hP
  refine x_szn (by omega) (by omega) hP (fun hz0 => ?_)
  refine x_callY (vx_runSW (As := [.ref o, .int (xs 1), .ref t]) (rest := []) ⟨hx, hb, hml, hown, hts⟩ (c_L_pass l hfl D cy lo n w o t (by omega) (by omega) (by omega) (by omega) (by omega) _ ht0 (xs 1)) (vx_cwSW 3 hts gL_law_L_pass rfl rfl rfl (by decide +kernel) ⟨Nat.le_of_ble_eq_true rfl, Nat.le_of_ble_eq_true rfl⟩) (preSY hz0 hP1 hK hXK (hZ.kept hS.2.1) hY) rfl rfl hl.1 rfl (lv_room (Nat.le_of_ble_eq_true rfl)) dL_law_1018 ⟨by show _ ≤ 662673; omega, by show _ ≤ 7114216; omega⟩) hS (fun u H locs hf hu hP hzS hS => ?_)
  have hM : MM cy u q 0 5 0 0 0 := hM.ext (fun a ha => hu a (by omega) (by omega))
  have hB : LB cy u q := hB.ext (hu _ (by omega) (by omega))
  have hF : FM cy u (q + 1) 0 300 := hF.ext (fun a h1 h2 => hu a (by omega) (by omega))
  refine lv_istore (lv' := [(5, .int (r_pass (xs 1)).1), (0, .ref b), (1, .ref o), (2, .ref q), (3, .ref t), (4, .int (0 : Int32))]) hx hb dL_law_1021 hl (by decide) rfl (fun ls hl => ?_)
  refine lv_aload_n hx hb dL_law_1023 rfl (lv_at hl 3 rfl) ?_
  refine lv_aload_n hx hb dL_law_1024 rfl (lv_at hl 1 rfl) ?_
  refine lv_iload hx hb dL_law_1025 (lv_at hl 5 rfl) ?_
  refine lv_iconst (v := 1) hx hb dL_law_1027 (by decide) ?_
  refine lv_iadd hx hb dL_law_1028 ?_
  refine x_sld hx hb hX hbs hbl hS (i := 1) (by decide) (by unfold vp_in; decide) dL_law_1029 ?_
  refine x_callx (va_runV (As := [.int (xs 1)]) (rest := []) ⟨hx, hb, hml, hown, hts⟩ (c_X8_pass l D cy lo n u q (by omega) (by omega) 0 hM hB hF (xs 1)) (cwV 1 hts gL_law_X8_pass rfl rfl rfl (by decide +kernel) ⟨Nat.le_of_ble_eq_true rfl, Nat.le_of_ble_eq_true rfl⟩) (preV hP hK (x_recv (ci := 8) (q := (RX8, TX8, 8)) hK.1 hP (by omega) (by omega) rfl hM.self)) rfl rfl hl.1 rfl (lv_room (Nat.le_of_ble_eq_true rfl)) dL_law_1030 ⟨by show _ ≤ 662673; omega, by show _ ≤ 7114216; omega⟩) hS (fun v2 u2 H locs hX2 hP hS => ?_)
  obtain ⟨hth, hans, hu2⟩ := hX2
  obtain ⟨n2, hn2⟩ : ∃ n2, n2 = n := ⟨n, rfl⟩
  rw [← hn2] at hP
  refine lv_istore (lv' := [(6, .int v2), (5, .int (r_pass (xs 1)).1), (0, .ref b), (1, .ref o), (2, .ref q), (3, .ref t), (4, .int (0 : Int32))]) hx hb dL_law_1033 hl (by decide) rfl (fun ls hl => ?_)
  refine lv_aload_n hx hb dL_law_1035 rfl (lv_at hl 4 rfl) ?_
  obtain ⟨fs2, hfs2⟩ := hth
  refine x_calli (va_runV (As := []) (rest := []) ⟨hx, hb, hml, hown, hts⟩ (c_X8_thrown l D cy lo n2 u2 q (by omega) (by omega) _ fs2 hfs2) (cwV 0 hts gL_law_X8_thrown rfl rfl rfl (by decide +kernel) ⟨Nat.le_of_ble_eq_true rfl, Nat.le_of_ble_eq_true rfl⟩) (preV hP hK (x_recv (ci := 8) (q := (RX8, TX8, 8)) hK.1 hP (by omega) (by omega) rfl hfs2)) rfl rfl hl.1 rfl (lv_room (Nat.le_of_ble_eq_true rfl)) dL_law_1036 ⟨by show _ ≤ 662673; omega, by show _ ≤ 7114216; omega⟩) hS (fun H locs hP hS => ?_)
  refine lv_iload hx hb dL_law_1039 (lv_at hl 1 rfl) ?_
  refine lv_icmp_eq (tgt := 1046) hx hb dL_law_1041 (by decide) (fun _ => ?_) (fun h9 => absurd rfl h9)
  refine lv_iload hx hb dL_law_1046 (lv_at hl 1 rfl) ?_
  refine lv_if_ne (tgt := 1063) hx hb dL_law_1048 (by decide) (fun _ => ?_) (fun h0 => ?_)
  · refine lv_goto (tgt := 1794) hx hb dL_law_1063 (by decide) ?_
    exact kk H locs ls _ _ (by omega) (by omega) (lv_sub hl [2, 6] rfl) hS
  · refine lv_aload_n hx hb dL_law_1051 rfl (lv_at hl 5 rfl) ?_
    refine lv_iconst (v := 0) hx hb dL_law_1052 (by decide) ?_
    obtain ⟨f9, hf9, hg9⟩ := hf
    have hut : u2 t = .inl (cy 7, 1, .inr (.inl f9)) := (hu2 t (by omega)).trans hf9
    refine x_lald hx hb hK.1 hP (by omega) (by omega) 7 hut rfl (cl_of_nI (i := 0) rfl (by omega)) (vp_in_of_nI (i := 0) rfl (by omega) (by omega)) dL_law_1053 ?_
    refine lv_iload hx hb dL_law_1054 (lv_at hl 0 rfl) ?_
    refine lv_i2l (v := f9 0) hx hb dL_law_1056 (by rw [hg9 h0, hans h0]) ?_
    refine W.lcmp hx hb dL_law_1057 ?_
    rw [cmp_rf]
    refine lv_if_eq (tgt := 1063) hx hb dL_law_1058 (by decide) (fun _ => ?_) (fun h9 => absurd rfl h9)
    refine lv_goto (tgt := 1794) hx hb dL_law_1063 (by decide) ?_
    exact kk H locs ls _ _ (by omega) (by omega) (lv_sub hl [2, 6] rfl) hS
set_option maxRecDepth 100000 in
set_option maxHeartbeats 1000000 in
/-- case 13: lift -/
theorem lw_c13 {p : Program} {l : Launch} {e : Env} {s : State} {m : MethodId} {below : List Frame} {meth : Method} {c : Code} {Q : State → Prop} {D : va_G} {cy : Nat → ClassId} {b : Nat} {xs : Nat → Int32} {lo n o q t : Nat} {w : Nat → va_E} (hfl : l.stackTraces = false) (hC : LC D cy p s m c b 6 xs lo) (hI : IV cy w lo n o q t) {H : Heap} {locs : List Loc} {ls : Array Slot} {cells slots : Nat} (hce : s.heap.size + cells = lo + n) (hsl : slots ≤ 2000) (hP : va_P D vwCl (rl lo n w) H) (hS : va_S (fun q : Nat => lo ≤ q) s.heap H locs) (hl : lv_has ls 9 [(0, .ref b), (1, .ref o), (2, .ref q), (3, .ref t), (4, .int (0 : Int32))])
    (kk : ∀ (H : Heap) (locs : List Loc) (ls : Array Slot) (cells slots : Nat), cells ≤ 3000 → slots ≤ 9000 → lv_has ls 9 [(0, .ref b), (4, .int (0 : Int32))] → va_S (fun q : Nat => lo ≤ q) s.heap H locs → W p l e room_1 s m #[Value.ref b] below meth c H locs cells slots Q (F0 m 1794 ls [])) : W p l e room_1 s m #[Value.ref b] below meth c H locs cells slots Q (F0 m 1066 ls []) := by
  obtain ⟨hx, hb, hml, hown, hts, htl, hKI, hXK, hZ, hY, hX, hbs, hlo⟩ := id hC
  have hbl : b < lo := by omega
  have hK : KK D cy s := hKI.1
  obtain ⟨ho, hq, ht, hn, hpw, hM, hB, hF, ht0⟩ := id hI
  refine lv_aload_n hx hb dL_law_1066 rfl (lv_at hl 1 rfl) ?_
  refine lv_aload_n hx hb dL_law_1067 rfl (lv_at hl 0 rfl) ?_
  refine lv_iload hx hb dL_law_1068 (lv_at hl 4 rfl) ?_
  refine lv_iconst (v := 1) hx hb dL_law_1070 (by decide) ?_
  refine lv_iadd hx hb dL_law_1071 ?_
  refine x_sld hx hb hX hbs hbl hS (i := 1) (by decide) (by unfold vp_in; decide) dL_law_1072 ?_
  refine lv_aload_n hx hb dL_law_1073 rfl (lv_at hl 0 rfl) ?_
  refine lv_iload hx hb dL_law_1074 (lv_at hl 4 rfl) ?_
  refine lv_iconst (v := 2) hx hb dL_law_1076 (by decide) ?_
  refine lv_iadd hx hb dL_law_1077 ?_
  refine x_sld hx hb hX hbs hbl hS (i := 2) (by decide) (by unfold vp_in; decide) dL_law_1078 ?_
  refine lv_aload_n hx hb dL_law_1079 rfl (lv_at hl 3 rfl) ?_
  have hP1 : va_P D vwCl (rl lo n (pw cy w o G0 G0 P0)) H := by rw [hpw]; exact hP
  refine x_szn (by omega) (by omega) hP (fun hz0 => ?_)
  refine x_callY (vx_runSW (As := [.ref o, .int (xs 1), .int (xs 2), .ref t]) (rest := []) ⟨hx, hb, hml, hown, hts⟩ (c_L_lift l hfl D cy lo n w o t (by omega) (by omega) (by omega) (by omega) (by omega) _ ht0 (xs 1) (xs 2)) (vx_cwSW 4 hts gL_law_L_lift rfl rfl rfl (by decide +kernel) ⟨Nat.le_of_ble_eq_true rfl, Nat.le_of_ble_eq_true rfl⟩) (preSY hz0 hP1 hK hXK (hZ.kept hS.2.1) hY) rfl rfl hl.1 rfl (lv_room (Nat.le_of_ble_eq_true rfl)) dL_law_1080 ⟨by show _ ≤ 662673; omega, by show _ ≤ 7114216; omega⟩) hS (fun u H locs hf hu hP hzS hS => ?_)
  have hM : MM cy u q 0 5 0 0 0 := hM.ext (fun a ha => hu a (by omega) (by omega))
  have hB : LB cy u q := hB.ext (hu _ (by omega) (by omega))
  have hF : FM cy u (q + 1) 0 300 := hF.ext (fun a h1 h2 => hu a (by omega) (by omega))
  refine lv_istore (lv' := [(5, .int (r_lift (xs 1) (xs 2)).1), (0, .ref b), (1, .ref o), (2, .ref q), (3, .ref t), (4, .int (0 : Int32))]) hx hb dL_law_1083 hl (by decide) rfl (fun ls hl => ?_)
  refine lv_aload_n hx hb dL_law_1085 rfl (lv_at hl 3 rfl) ?_
  refine lv_aload_n hx hb dL_law_1086 rfl (lv_at hl 1 rfl) ?_
  refine lv_iload hx hb dL_law_1087 (lv_at hl 5 rfl) ?_
  refine lv_iconst (v := 1) hx hb dL_law_1089 (by decide) ?_
  refine lv_iadd hx hb dL_law_1090 ?_
  refine x_sld hx hb hX hbs hbl hS (i := 1) (by decide) (by unfold vp_in; decide) dL_law_1091 ?_
  refine lv_aload_n hx hb dL_law_1092 rfl (lv_at hl 1 rfl) ?_
  refine lv_iload hx hb dL_law_1093 (lv_at hl 5 rfl) ?_
  refine lv_iconst (v := 2) hx hb dL_law_1095 (by decide) ?_
  refine lv_iadd hx hb dL_law_1096 ?_
  refine x_sld hx hb hX hbs hbl hS (i := 2) (by decide) (by unfold vp_in; decide) dL_law_1097 ?_
  refine x_callx (va_runV (As := [.int (xs 1), .int (xs 2)]) (rest := []) ⟨hx, hb, hml, hown, hts⟩ (c_X8_lift l D cy lo n u q (by omega) (by omega) 0 hM hB hF (xs 1) (xs 2)) (cwV 2 hts gL_law_X8_lift rfl rfl rfl (by decide +kernel) ⟨Nat.le_of_ble_eq_true rfl, Nat.le_of_ble_eq_true rfl⟩) (preV hP hK (x_recv (ci := 8) (q := (RX8, TX8, 8)) hK.1 hP (by omega) (by omega) rfl hM.self)) rfl rfl hl.1 rfl (lv_room (Nat.le_of_ble_eq_true rfl)) dL_law_1098 ⟨by show _ ≤ 662673; omega, by show _ ≤ 7114216; omega⟩) hS (fun v2 u2 H locs hX2 hP hS => ?_)
  obtain ⟨hth, hans, hu2⟩ := hX2
  obtain ⟨n2, hn2⟩ : ∃ n2, n2 = n := ⟨n, rfl⟩
  rw [← hn2] at hP
  refine lv_istore (lv' := [(6, .int v2), (5, .int (r_lift (xs 1) (xs 2)).1), (0, .ref b), (1, .ref o), (2, .ref q), (3, .ref t), (4, .int (0 : Int32))]) hx hb dL_law_1101 hl (by decide) rfl (fun ls hl => ?_)
  refine lv_aload_n hx hb dL_law_1103 rfl (lv_at hl 4 rfl) ?_
  obtain ⟨fs2, hfs2⟩ := hth
  refine x_calli (va_runV (As := []) (rest := []) ⟨hx, hb, hml, hown, hts⟩ (c_X8_thrown l D cy lo n2 u2 q (by omega) (by omega) _ fs2 hfs2) (cwV 0 hts gL_law_X8_thrown rfl rfl rfl (by decide +kernel) ⟨Nat.le_of_ble_eq_true rfl, Nat.le_of_ble_eq_true rfl⟩) (preV hP hK (x_recv (ci := 8) (q := (RX8, TX8, 8)) hK.1 hP (by omega) (by omega) rfl hfs2)) rfl rfl hl.1 rfl (lv_room (Nat.le_of_ble_eq_true rfl)) dL_law_1104 ⟨by show _ ≤ 662673; omega, by show _ ≤ 7114216; omega⟩) hS (fun H locs hP hS => ?_)
  refine lv_iload hx hb dL_law_1107 (lv_at hl 1 rfl) ?_
  refine lv_icmp_eq (tgt := 1114) hx hb dL_law_1109 (by decide) (fun _ => ?_) (fun h9 => absurd rfl h9)
  refine lv_iload hx hb dL_law_1114 (lv_at hl 1 rfl) ?_
  refine lv_if_ne (tgt := 1131) hx hb dL_law_1116 (by decide) (fun _ => ?_) (fun h0 => ?_)
  · refine lv_goto (tgt := 1794) hx hb dL_law_1131 (by decide) ?_
    exact kk H locs ls _ _ (by omega) (by omega) (lv_sub hl [2, 6] rfl) hS
  · refine lv_aload_n hx hb dL_law_1119 rfl (lv_at hl 5 rfl) ?_
    refine lv_iconst (v := 0) hx hb dL_law_1120 (by decide) ?_
    obtain ⟨f9, hf9, hg9⟩ := hf
    have hut : u2 t = .inl (cy 7, 1, .inr (.inl f9)) := (hu2 t (by omega)).trans hf9
    refine x_lald hx hb hK.1 hP (by omega) (by omega) 7 hut rfl (cl_of_nI (i := 0) rfl (by omega)) (vp_in_of_nI (i := 0) rfl (by omega) (by omega)) dL_law_1121 ?_
    refine lv_iload hx hb dL_law_1122 (lv_at hl 0 rfl) ?_
    refine lv_i2l (v := f9 0) hx hb dL_law_1124 (by rw [hg9 h0, hans h0]) ?_
    refine W.lcmp hx hb dL_law_1125 ?_
    rw [cmp_rf]
    refine lv_if_eq (tgt := 1131) hx hb dL_law_1126 (by decide) (fun _ => ?_) (fun h9 => absurd rfl h9)
    refine lv_goto (tgt := 1794) hx hb dL_law_1131 (by decide) ?_
    exact kk H locs ls _ _ (by omega) (by omega) (lv_sub hl [2, 6] rfl) hS
set_option maxRecDepth 100000 in
set_option maxHeartbeats 1000000 in
/-- case 14: book -/
theorem lw_c14 {p : Program} {l : Launch} {e : Env} {s : State} {m : MethodId} {below : List Frame} {meth : Method} {c : Code} {Q : State → Prop} {D : va_G} {cy : Nat → ClassId} {b : Nat} {xs : Nat → Int32} {lo n o q t : Nat} {w : Nat → va_E} (hfl : l.stackTraces = false) (hC : LC D cy p s m c b 6 xs lo) (hI : IV cy w lo n o q t) {H : Heap} {locs : List Loc} {ls : Array Slot} {cells slots : Nat} (hce : s.heap.size + cells = lo + n) (hsl : slots ≤ 2000) (hP : va_P D vwCl (rl lo n w) H) (hS : va_S (fun q : Nat => lo ≤ q) s.heap H locs) (hl : lv_has ls 9 [(0, .ref b), (1, .ref o), (2, .ref q), (3, .ref t), (4, .int (0 : Int32))])
    (kk : ∀ (H : Heap) (locs : List Loc) (ls : Array Slot) (cells slots : Nat), cells ≤ 3000 → slots ≤ 9000 → lv_has ls 9 [(0, .ref b), (4, .int (0 : Int32))] → va_S (fun q : Nat => lo ≤ q) s.heap H locs → W p l e room_1 s m #[Value.ref b] below meth c H locs cells slots Q (F0 m 1794 ls [])) : W p l e room_1 s m #[Value.ref b] below meth c H locs cells slots Q (F0 m 1134 ls []) := by
  obtain ⟨hx, hb, hml, hown, hts, htl, hKI, hXK, hZ, hY, hX, hbs, hlo⟩ := id hC
  have hbl : b < lo := by omega
  have hK : KK D cy s := hKI.1
  obtain ⟨ho, hq, ht, hn, hpw, hM, hB, hF, ht0⟩ := id hI
  refine lv_aload_n hx hb dL_law_1134 rfl (lv_at hl 1 rfl) ?_
  have hP : va_P D vwCl (rl lo n (pw cy w o G0 G0 P0)) H := by rw [hpw]; exact hP
  refine x_calli (va_runV (As := []) (rest := []) ⟨hx, hb, hml, hown, hts⟩ (c_X6_book l D cy lo n w o G0 G0 P0 (by omega) (by omega) 0 gi_G0 0 (Nat.le_refl 0) (by decide +kernel)) (cwV 0 hts gL_law_X6_book rfl rfl rfl (by decide +kernel) ⟨Nat.le_of_ble_eq_true rfl, Nat.le_of_ble_eq_true rfl⟩) (preV hP hK (x_recv (ci := 6) (q := (RX6, TX6, 11)) hK.1 hP (by omega) (by omega) rfl pwx_0)) rfl rfl hl.1 rfl (lv_room (Nat.le_of_ble_eq_true rfl)) dL_law_1135 ⟨by show _ ≤ 662673; omega, by show _ ≤ 7114216; omega⟩) hS (fun H locs hP hS => ?_)
  rw [show (m_res 0 0 G0 G0).1 = 0 from res_0]
  refine x_gen hP (fun u eu hP => ?_)
  have hu : ∀ a, (a < o ∨ o + 118 ≤ a) → u a = w a := fun a ha => by rw [eu]; exact (gw_out (by omega)).trans ((gw_out (by omega)).trans (hw_out (by omega)))
  have hM : MM cy u q 0 5 0 0 0 := hM.ext (fun a ha => hu a (by omega))
  have hB : LB cy u q := hB.ext (hu _ (by omega))
  have hF : FM cy u (q + 1) 0 300 := hF.ext (fun a h1 h2 => hu a (by omega))
  clear eu
  refine lv_aload_n hx hb dL_law_1138 rfl (lv_at hl 2 rfl) ?_
  refine x_szn (by omega) (by omega) hP (fun hz0 => ?_)
  refine x_calliN (va_runV (As := []) (rest := [.int (0 : Int32)]) ⟨hx, hb, hml, hown, hts⟩ (c_X8_book l D cy lo n u q (by omega) (by omega) 0 hM hB hF) (cwV 0 hts gL_law_X8_book rfl rfl rfl (by decide +kernel) ⟨Nat.le_of_ble_eq_true rfl, Nat.le_of_ble_eq_true rfl⟩) (preVN hz0 hP hKI (x_recv (ci := 8) (q := (RX8, TX8, 8)) hK.1 hP (by omega) (by omega) rfl hM.self)) rfl rfl hl.1 rfl (lv_room (Nat.le_of_ble_eq_true rfl)) dL_law_1139 ⟨by show _ ≤ 662673; omega, by show _ ≤ 7114216; omega⟩) hS (fun v2 u2 H locs hX2 hP hzN hS => ?_)
  obtain ⟨-, hans, -⟩ := hX2
  rw [show v2 = 0 from hans rfl]
  refine lv_icmp_eq (tgt := 1794) hx hb dL_law_1142 (by decide) (fun _ => ?_) (fun h9 => absurd rfl h9)
  exact kk H locs ls _ _ (by omega) (by omega) (lv_sub hl [0, 4] rfl) hS
set_option maxRecDepth 100000 in
set_option maxHeartbeats 1000000 in
/-- case 15: ofCell -/
theorem lw_c15 {p : Program} {l : Launch} {e : Env} {s : State} {m : MethodId} {below : List Frame} {meth : Method} {c : Code} {Q : State → Prop} {D : va_G} {cy : Nat → ClassId} {b : Nat} {xs : Nat → Int32} {lo n o q t : Nat} {w : Nat → va_E} (hfl : l.stackTraces = false) (hC : LC D cy p s m c b 6 xs lo) (hI : IV cy w lo n o q t) {H : Heap} {locs : List Loc} {ls : Array Slot} {cells slots : Nat} (hce : s.heap.size + cells = lo + n) (hsl : slots ≤ 2000) (hP : va_P D vwCl (rl lo n w) H) (hS : va_S (fun q : Nat => lo ≤ q) s.heap H locs) (hl : lv_has ls 9 [(0, .ref b), (1, .ref o), (2, .ref q), (3, .ref t), (4, .int (0 : Int32))])
    (kk : ∀ (H : Heap) (locs : List Loc) (ls : Array Slot) (cells slots : Nat), cells ≤ 3000 → slots ≤ 9000 → lv_has ls 9 [(0, .ref b), (4, .int (0 : Int32))] → va_S (fun q : Nat => lo ≤ q) s.heap H locs → W p l e room_1 s m #[Value.ref b] below meth c H locs cells slots Q (F0 m 1794 ls [])) : W p l e room_1 s m #[Value.ref b] below meth c H locs cells slots Q (F0 m 1147 ls []) := by
  obtain ⟨hx, hb, hml, hown, hts, htl, hKI, hXK, hZ, hY, hX, hbs, hlo⟩ := id hC
  have hbl : b < lo := by omega
  have hK : KK D cy s := hKI.1
  obtain ⟨ho, hq, ht, hn, hpw, hM, hB, hF, ht0⟩ := id hI
  refine lv_aload_n hx hb dL_law_1147 rfl (lv_at hl 1 rfl) ?_
  refine lv_aload_n hx hb dL_law_1148 rfl (lv_at hl 0 rfl) ?_
  refine lv_iload hx hb dL_law_1149 (lv_at hl 4 rfl) ?_
  refine lv_iconst (v := 1) hx hb dL_law_1151 (by decide) ?_
  refine lv_iadd hx hb dL_law_1152 ?_
  refine x_sld hx hb hX hbs hbl hS (i := 1) (by decide) (by unfold vp_in; decide) dL_law_1153 ?_
  refine lv_aload_n hx hb dL_law_1154 rfl (lv_at hl 0 rfl) ?_
  refine lv_iload hx hb dL_law_1155 (lv_at hl 4 rfl) ?_
  refine lv_iconst (v := 2) hx hb dL_law_1157 (by decide) ?_
  refine lv_iadd hx hb dL_law_1158 ?_
  refine x_sld hx hb hX hbs hbl hS (i := 2) (by decide) (by unfold vp_in; decide) dL_law_1159 ?_
  refine lv_aload_n hx hb dL_law_1160 rfl (lv_at hl 3 rfl) ?_
  have hP1 : va_P D vwCl (rl lo n (pw cy w o G0 G0 P0)) H := by rw [hpw]; exact hP
  refine x_szn (by omega) (by omega) hP (fun hz0 => ?_)
  refine x_callY (vx_runSW (As := [.ref o, .int (xs 1), .int (xs 2), .ref t]) (rest := []) ⟨hx, hb, hml, hown, hts⟩ (c_L_ofCell l hfl D cy lo n w o t (by omega) (by omega) (by omega) (by omega) (by omega) _ ht0 (xs 1) (xs 2)) (vx_cwSW 4 hts gL_law_L_ofCell rfl rfl rfl (by decide +kernel) ⟨Nat.le_of_ble_eq_true rfl, Nat.le_of_ble_eq_true rfl⟩) (preSY hz0 hP1 hK hXK (hZ.kept hS.2.1) hY) rfl rfl hl.1 rfl (lv_room (Nat.le_of_ble_eq_true rfl)) dL_law_1161 ⟨by show _ ≤ 662673; omega, by show _ ≤ 7114216; omega⟩) hS (fun u H locs hf hu hP hzS hS => ?_)
  have hM : MM cy u q 0 5 0 0 0 := hM.ext (fun a ha => hu a (by omega) (by omega))
  have hB : LB cy u q := hB.ext (hu _ (by omega) (by omega))
  have hF : FM cy u (q + 1) 0 300 := hF.ext (fun a h1 h2 => hu a (by omega) (by omega))
  refine lv_istore (lv' := [(5, .int (r_ofCell (xs 1) (xs 2)).1), (0, .ref b), (1, .ref o), (2, .ref q), (3, .ref t), (4, .int (0 : Int32))]) hx hb dL_law_1164 hl (by decide) rfl (fun ls hl => ?_)
  refine lv_aload_n hx hb dL_law_1166 rfl (lv_at hl 3 rfl) ?_
  refine lv_aload_n hx hb dL_law_1167 rfl (lv_at hl 1 rfl) ?_
  refine lv_iload hx hb dL_law_1168 (lv_at hl 5 rfl) ?_
  refine lv_iconst (v := 1) hx hb dL_law_1170 (by decide) ?_
  refine lv_iadd hx hb dL_law_1171 ?_
  refine x_sld hx hb hX hbs hbl hS (i := 1) (by decide) (by unfold vp_in; decide) dL_law_1172 ?_
  refine lv_aload_n hx hb dL_law_1173 rfl (lv_at hl 1 rfl) ?_
  refine lv_iload hx hb dL_law_1174 (lv_at hl 5 rfl) ?_
  refine lv_iconst (v := 2) hx hb dL_law_1176 (by decide) ?_
  refine lv_iadd hx hb dL_law_1177 ?_
  refine x_sld hx hb hX hbs hbl hS (i := 2) (by decide) (by unfold vp_in; decide) dL_law_1178 ?_
  refine x_callx (va_runV (As := [.int (xs 1), .int (xs 2)]) (rest := []) ⟨hx, hb, hml, hown, hts⟩ (c_X8_ofCell l D cy lo n u q (by omega) (by omega) 0 hM hB hF (xs 1) (xs 2)) (cwV 2 hts gL_law_X8_ofCell rfl rfl rfl (by decide +kernel) ⟨Nat.le_of_ble_eq_true rfl, Nat.le_of_ble_eq_true rfl⟩) (preV hP hK (x_recv (ci := 8) (q := (RX8, TX8, 8)) hK.1 hP (by omega) (by omega) rfl hM.self)) rfl rfl hl.1 rfl (lv_room (Nat.le_of_ble_eq_true rfl)) dL_law_1179 ⟨by show _ ≤ 662673; omega, by show _ ≤ 7114216; omega⟩) hS (fun v2 u2 H locs hX2 hP hS => ?_)
  obtain ⟨hth, hans, hu2⟩ := hX2
  obtain ⟨n2, hn2⟩ : ∃ n2, n2 = n := ⟨n, rfl⟩
  rw [← hn2] at hP
  refine lv_istore (lv' := [(6, .int v2), (5, .int (r_ofCell (xs 1) (xs 2)).1), (0, .ref b), (1, .ref o), (2, .ref q), (3, .ref t), (4, .int (0 : Int32))]) hx hb dL_law_1182 hl (by decide) rfl (fun ls hl => ?_)
  refine lv_aload_n hx hb dL_law_1184 rfl (lv_at hl 4 rfl) ?_
  obtain ⟨fs2, hfs2⟩ := hth
  refine x_calli (va_runV (As := []) (rest := []) ⟨hx, hb, hml, hown, hts⟩ (c_X8_thrown l D cy lo n2 u2 q (by omega) (by omega) _ fs2 hfs2) (cwV 0 hts gL_law_X8_thrown rfl rfl rfl (by decide +kernel) ⟨Nat.le_of_ble_eq_true rfl, Nat.le_of_ble_eq_true rfl⟩) (preV hP hK (x_recv (ci := 8) (q := (RX8, TX8, 8)) hK.1 hP (by omega) (by omega) rfl hfs2)) rfl rfl hl.1 rfl (lv_room (Nat.le_of_ble_eq_true rfl)) dL_law_1185 ⟨by show _ ≤ 662673; omega, by show _ ≤ 7114216; omega⟩) hS (fun H locs hP hS => ?_)
  refine lv_iload hx hb dL_law_1188 (lv_at hl 1 rfl) ?_
  refine lv_icmp_eq (tgt := 1195) hx hb dL_law_1190 (by decide) (fun _ => ?_) (fun h9 => absurd rfl h9)
  refine lv_iload hx hb dL_law_1195 (lv_at hl 1 rfl) ?_
  refine lv_if_ne (tgt := 1212) hx hb dL_law_1197 (by decide) (fun _ => ?_) (fun h0 => ?_)
  · refine lv_goto (tgt := 1794) hx hb dL_law_1212 (by decide) ?_
    exact kk H locs ls _ _ (by omega) (by omega) (lv_sub hl [2, 6] rfl) hS
  · refine lv_aload_n hx hb dL_law_1200 rfl (lv_at hl 5 rfl) ?_
    refine lv_iconst (v := 0) hx hb dL_law_1201 (by decide) ?_
    obtain ⟨f9, hf9, hg9⟩ := hf
    have hut : u2 t = .inl (cy 7, 1, .inr (.inl f9)) := (hu2 t (by omega)).trans hf9
    refine x_lald hx hb hK.1 hP (by omega) (by omega) 7 hut rfl (cl_of_nI (i := 0) rfl (by omega)) (vp_in_of_nI (i := 0) rfl (by omega) (by omega)) dL_law_1202 ?_
    refine lv_iload hx hb dL_law_1203 (lv_at hl 0 rfl) ?_
    refine lv_i2l (v := f9 0) hx hb dL_law_1205 (by rw [hg9 h0, hans h0]) ?_
    refine W.lcmp hx hb dL_law_1206 ?_
    rw [cmp_rf]
    refine lv_if_eq (tgt := 1212) hx hb dL_law_1207 (by decide) (fun _ => ?_) (fun h9 => absurd rfl h9)
    refine lv_goto (tgt := 1794) hx hb dL_law_1212 (by decide) ?_
    exact kk H locs ls _ _ (by omega) (by omega) (lv_sub hl [2, 6] rfl) hS
set_option maxRecDepth 100000 in
set_option maxHeartbeats 1000000 in
/-- case 16: ofWell -/
theorem lw_c16 {p : Program} {l : Launch} {e : Env} {s : State} {m : MethodId} {below : List Frame} {meth : Method} {c : Code} {Q : State → Prop} {D : va_G} {cy : Nat → ClassId} {b : Nat} {xs : Nat → Int32} {lo n o q t : Nat} {w : Nat → va_E} (hfl : l.stackTraces = false) (hC : LC D cy p s m c b 6 xs lo) (hI : IV cy w lo n o q t) {H : Heap} {locs : List Loc} {ls : Array Slot} {cells slots : Nat} (hce : s.heap.size + cells = lo + n) (hsl : slots ≤ 2000) (hP : va_P D vwCl (rl lo n w) H) (hS : va_S (fun q : Nat => lo ≤ q) s.heap H locs) (hl : lv_has ls 9 [(0, .ref b), (1, .ref o), (2, .ref q), (3, .ref t), (4, .int (0 : Int32))])
    (kk : ∀ (H : Heap) (locs : List Loc) (ls : Array Slot) (cells slots : Nat), cells ≤ 3000 → slots ≤ 9000 → lv_has ls 9 [(0, .ref b), (4, .int (0 : Int32))] → va_S (fun q : Nat => lo ≤ q) s.heap H locs → W p l e room_1 s m #[Value.ref b] below meth c H locs cells slots Q (F0 m 1794 ls [])) : W p l e room_1 s m #[Value.ref b] below meth c H locs cells slots Q (F0 m 1215 ls []) := by
  obtain ⟨hx, hb, hml, hown, hts, htl, hKI, hXK, hZ, hY, hX, hbs, hlo⟩ := id hC
  have hbl : b < lo := by omega
  have hK : KK D cy s := hKI.1
  obtain ⟨ho, hq, ht, hn, hpw, hM, hB, hF, ht0⟩ := id hI
  refine lv_aload_n hx hb dL_law_1215 rfl (lv_at hl 1 rfl) ?_
  refine lv_aload_n hx hb dL_law_1216 rfl (lv_at hl 0 rfl) ?_
  refine lv_iload hx hb dL_law_1217 (lv_at hl 4 rfl) ?_
  refine lv_iconst (v := 1) hx hb dL_law_1219 (by decide) ?_
  refine lv_iadd hx hb dL_law_1220 ?_
  refine x_sld hx hb hX hbs hbl hS (i := 1) (by decide) (by unfold vp_in; decide) dL_law_1221 ?_
  refine lv_aload_n hx hb dL_law_1222 rfl (lv_at hl 0 rfl) ?_
  refine lv_iload hx hb dL_law_1223 (lv_at hl 4 rfl) ?_
  refine lv_iconst (v := 2) hx hb dL_law_1225 (by decide) ?_
  refine lv_iadd hx hb dL_law_1226 ?_
  refine x_sld hx hb hX hbs hbl hS (i := 2) (by decide) (by unfold vp_in; decide) dL_law_1227 ?_
  refine lv_aload_n hx hb dL_law_1228 rfl (lv_at hl 3 rfl) ?_
  have hP1 : va_P D vwCl (rl lo n (pw cy w o G0 G0 P0)) H := by rw [hpw]; exact hP
  refine x_szn (by omega) (by omega) hP (fun hz0 => ?_)
  refine x_callY (vx_runSW (As := [.ref o, .int (xs 1), .int (xs 2), .ref t]) (rest := []) ⟨hx, hb, hml, hown, hts⟩ (c_L_ofWell l hfl D cy lo n w o t (by omega) (by omega) (by omega) (by omega) (by omega) _ ht0 (xs 1) (xs 2)) (vx_cwSW 4 hts gL_law_L_ofWell rfl rfl rfl (by decide +kernel) ⟨Nat.le_of_ble_eq_true rfl, Nat.le_of_ble_eq_true rfl⟩) (preSY hz0 hP1 hK hXK (hZ.kept hS.2.1) hY) rfl rfl hl.1 rfl (lv_room (Nat.le_of_ble_eq_true rfl)) dL_law_1229 ⟨by show _ ≤ 662673; omega, by show _ ≤ 7114216; omega⟩) hS (fun u H locs hf hu hP hzS hS => ?_)
  have hM : MM cy u q 0 5 0 0 0 := hM.ext (fun a ha => hu a (by omega) (by omega))
  have hB : LB cy u q := hB.ext (hu _ (by omega) (by omega))
  have hF : FM cy u (q + 1) 0 300 := hF.ext (fun a h1 h2 => hu a (by omega) (by omega))
  refine lv_istore (lv' := [(5, .int (r_ofWell (xs 1) (xs 2)).1), (0, .ref b), (1, .ref o), (2, .ref q), (3, .ref t), (4, .int (0 : Int32))]) hx hb dL_law_1232 hl (by decide) rfl (fun ls hl => ?_)
  refine lv_aload_n hx hb dL_law_1234 rfl (lv_at hl 3 rfl) ?_
  refine lv_aload_n hx hb dL_law_1235 rfl (lv_at hl 1 rfl) ?_
  refine lv_iload hx hb dL_law_1236 (lv_at hl 5 rfl) ?_
  refine lv_iconst (v := 1) hx hb dL_law_1238 (by decide) ?_
  refine lv_iadd hx hb dL_law_1239 ?_
  refine x_sld hx hb hX hbs hbl hS (i := 1) (by decide) (by unfold vp_in; decide) dL_law_1240 ?_
  refine lv_aload_n hx hb dL_law_1241 rfl (lv_at hl 1 rfl) ?_
  refine lv_iload hx hb dL_law_1242 (lv_at hl 5 rfl) ?_
  refine lv_iconst (v := 2) hx hb dL_law_1244 (by decide) ?_
  refine lv_iadd hx hb dL_law_1245 ?_
  refine x_sld hx hb hX hbs hbl hS (i := 2) (by decide) (by unfold vp_in; decide) dL_law_1246 ?_
  refine x_callx (va_runV (As := [.int (xs 1), .int (xs 2)]) (rest := []) ⟨hx, hb, hml, hown, hts⟩ (c_X8_ofWell l D cy lo n u q (by omega) (by omega) 0 hM hB hF (xs 1) (xs 2)) (cwV 2 hts gL_law_X8_ofWell rfl rfl rfl (by decide +kernel) ⟨Nat.le_of_ble_eq_true rfl, Nat.le_of_ble_eq_true rfl⟩) (preV hP hK (x_recv (ci := 8) (q := (RX8, TX8, 8)) hK.1 hP (by omega) (by omega) rfl hM.self)) rfl rfl hl.1 rfl (lv_room (Nat.le_of_ble_eq_true rfl)) dL_law_1247 ⟨by show _ ≤ 662673; omega, by show _ ≤ 7114216; omega⟩) hS (fun v2 u2 H locs hX2 hP hS => ?_)
  obtain ⟨hth, hans, hu2⟩ := hX2
  obtain ⟨n2, hn2⟩ : ∃ n2, n2 = n := ⟨n, rfl⟩
  rw [← hn2] at hP
  refine lv_istore (lv' := [(6, .int v2), (5, .int (r_ofWell (xs 1) (xs 2)).1), (0, .ref b), (1, .ref o), (2, .ref q), (3, .ref t), (4, .int (0 : Int32))]) hx hb dL_law_1250 hl (by decide) rfl (fun ls hl => ?_)
  refine lv_aload_n hx hb dL_law_1252 rfl (lv_at hl 4 rfl) ?_
  obtain ⟨fs2, hfs2⟩ := hth
  refine x_calli (va_runV (As := []) (rest := []) ⟨hx, hb, hml, hown, hts⟩ (c_X8_thrown l D cy lo n2 u2 q (by omega) (by omega) _ fs2 hfs2) (cwV 0 hts gL_law_X8_thrown rfl rfl rfl (by decide +kernel) ⟨Nat.le_of_ble_eq_true rfl, Nat.le_of_ble_eq_true rfl⟩) (preV hP hK (x_recv (ci := 8) (q := (RX8, TX8, 8)) hK.1 hP (by omega) (by omega) rfl hfs2)) rfl rfl hl.1 rfl (lv_room (Nat.le_of_ble_eq_true rfl)) dL_law_1253 ⟨by show _ ≤ 662673; omega, by show _ ≤ 7114216; omega⟩) hS (fun H locs hP hS => ?_)
  refine lv_iload hx hb dL_law_1256 (lv_at hl 1 rfl) ?_
  refine lv_icmp_eq (tgt := 1263) hx hb dL_law_1258 (by decide) (fun _ => ?_) (fun h9 => absurd rfl h9)
  refine lv_iload hx hb dL_law_1263 (lv_at hl 1 rfl) ?_
  refine lv_if_ne (tgt := 1280) hx hb dL_law_1265 (by decide) (fun _ => ?_) (fun h0 => ?_)
  · refine lv_goto (tgt := 1794) hx hb dL_law_1280 (by decide) ?_
    exact kk H locs ls _ _ (by omega) (by omega) (lv_sub hl [2, 6] rfl) hS
  · refine lv_aload_n hx hb dL_law_1268 rfl (lv_at hl 5 rfl) ?_
    refine lv_iconst (v := 0) hx hb dL_law_1269 (by decide) ?_
    obtain ⟨f9, hf9, hg9⟩ := hf
    have hut : u2 t = .inl (cy 7, 1, .inr (.inl f9)) := (hu2 t (by omega)).trans hf9
    refine x_lald hx hb hK.1 hP (by omega) (by omega) 7 hut rfl (cl_of_nI (i := 0) rfl (by omega)) (vp_in_of_nI (i := 0) rfl (by omega) (by omega)) dL_law_1270 ?_
    refine lv_iload hx hb dL_law_1271 (lv_at hl 0 rfl) ?_
    refine lv_i2l (v := f9 0) hx hb dL_law_1273 (by rw [hg9 h0, hans h0]) ?_
    refine W.lcmp hx hb dL_law_1274 ?_
    rw [cmp_rf]
    refine lv_if_eq (tgt := 1280) hx hb dL_law_1275 (by decide) (fun _ => ?_) (fun h9 => absurd rfl h9)
    refine lv_goto (tgt := 1794) hx hb dL_law_1280 (by decide) ?_
    exact kk H locs ls _ _ (by omega) (by omega) (lv_sub hl [2, 6] rfl) hS
set_option maxRecDepth 100000 in
set_option maxHeartbeats 1000000 in
/-- case 17: ofPartner -/
theorem lw_c17 {p : Program} {l : Launch} {e : Env} {s : State} {m : MethodId} {below : List Frame} {meth : Method} {c : Code} {Q : State → Prop} {D : va_G} {cy : Nat → ClassId} {b : Nat} {xs : Nat → Int32} {lo n o q t : Nat} {w : Nat → va_E} (hfl : l.stackTraces = false) (hC : LC D cy p s m c b 6 xs lo) (hI : IV cy w lo n o q t) {H : Heap} {locs : List Loc} {ls : Array Slot} {cells slots : Nat} (hce : s.heap.size + cells = lo + n) (hsl : slots ≤ 2000) (hP : va_P D vwCl (rl lo n w) H) (hS : va_S (fun q : Nat => lo ≤ q) s.heap H locs) (hl : lv_has ls 9 [(0, .ref b), (1, .ref o), (2, .ref q), (3, .ref t), (4, .int (0 : Int32))])
    (kk : ∀ (H : Heap) (locs : List Loc) (ls : Array Slot) (cells slots : Nat), cells ≤ 3000 → slots ≤ 9000 → lv_has ls 9 [(0, .ref b), (4, .int (0 : Int32))] → va_S (fun q : Nat => lo ≤ q) s.heap H locs → W p l e room_1 s m #[Value.ref b] below meth c H locs cells slots Q (F0 m 1794 ls [])) : W p l e room_1 s m #[Value.ref b] below meth c H locs cells slots Q (F0 m 1283 ls []) := by
  obtain ⟨hx, hb, hml, hown, hts, htl, hKI, hXK, hZ, hY, hX, hbs, hlo⟩ := id hC
  have hbl : b < lo := by omega
  have hK : KK D cy s := hKI.1
  obtain ⟨ho, hq, ht, hn, hpw, hM, hB, hF, ht0⟩ := id hI
  refine lv_aload_n hx hb dL_law_1283 rfl (lv_at hl 1 rfl) ?_
  refine lv_aload_n hx hb dL_law_1284 rfl (lv_at hl 0 rfl) ?_
  refine lv_iload hx hb dL_law_1285 (lv_at hl 4 rfl) ?_
  refine lv_iconst (v := 1) hx hb dL_law_1287 (by decide) ?_
  refine lv_iadd hx hb dL_law_1288 ?_
  refine x_sld hx hb hX hbs hbl hS (i := 1) (by decide) (by unfold vp_in; decide) dL_law_1289 ?_
  refine lv_aload_n hx hb dL_law_1290 rfl (lv_at hl 0 rfl) ?_
  refine lv_iload hx hb dL_law_1291 (lv_at hl 4 rfl) ?_
  refine lv_iconst (v := 2) hx hb dL_law_1293 (by decide) ?_
  refine lv_iadd hx hb dL_law_1294 ?_
  refine x_sld hx hb hX hbs hbl hS (i := 2) (by decide) (by unfold vp_in; decide) dL_law_1295 ?_
  refine lv_aload_n hx hb dL_law_1296 rfl (lv_at hl 3 rfl) ?_
  have hP1 : va_P D vwCl (rl lo n (pw cy w o G0 G0 P0)) H := by rw [hpw]; exact hP
  refine x_szn (by omega) (by omega) hP (fun hz0 => ?_)
  refine x_callY (vx_runSW (As := [.ref o, .int (xs 1), .int (xs 2), .ref t]) (rest := []) ⟨hx, hb, hml, hown, hts⟩ (c_L_ofPartner l hfl D cy lo n w o t (by omega) (by omega) (by omega) (by omega) (by omega) _ ht0 (xs 1) (xs 2)) (vx_cwSW 4 hts gL_law_L_ofPartner rfl rfl rfl (by decide +kernel) ⟨Nat.le_of_ble_eq_true rfl, Nat.le_of_ble_eq_true rfl⟩) (preSY hz0 hP1 hK hXK (hZ.kept hS.2.1) hY) rfl rfl hl.1 rfl (lv_room (Nat.le_of_ble_eq_true rfl)) dL_law_1297 ⟨by show _ ≤ 662673; omega, by show _ ≤ 7114216; omega⟩) hS (fun u H locs hf hu hP hzS hS => ?_)
  have hM : MM cy u q 0 5 0 0 0 := hM.ext (fun a ha => hu a (by omega) (by omega))
  have hB : LB cy u q := hB.ext (hu _ (by omega) (by omega))
  have hF : FM cy u (q + 1) 0 300 := hF.ext (fun a h1 h2 => hu a (by omega) (by omega))
  refine lv_istore (lv' := [(5, .int (r_ofPartner (xs 1) (xs 2)).1), (0, .ref b), (1, .ref o), (2, .ref q), (3, .ref t), (4, .int (0 : Int32))]) hx hb dL_law_1300 hl (by decide) rfl (fun ls hl => ?_)
  refine lv_aload_n hx hb dL_law_1302 rfl (lv_at hl 3 rfl) ?_
  refine lv_aload_n hx hb dL_law_1303 rfl (lv_at hl 1 rfl) ?_
  refine lv_iload hx hb dL_law_1304 (lv_at hl 5 rfl) ?_
  refine lv_iconst (v := 1) hx hb dL_law_1306 (by decide) ?_
  refine lv_iadd hx hb dL_law_1307 ?_
  refine x_sld hx hb hX hbs hbl hS (i := 1) (by decide) (by unfold vp_in; decide) dL_law_1308 ?_
  refine lv_aload_n hx hb dL_law_1309 rfl (lv_at hl 1 rfl) ?_
  refine lv_iload hx hb dL_law_1310 (lv_at hl 5 rfl) ?_
  refine lv_iconst (v := 2) hx hb dL_law_1312 (by decide) ?_
  refine lv_iadd hx hb dL_law_1313 ?_
  refine x_sld hx hb hX hbs hbl hS (i := 2) (by decide) (by unfold vp_in; decide) dL_law_1314 ?_
  refine x_callx (va_runV (As := [.int (xs 1), .int (xs 2)]) (rest := []) ⟨hx, hb, hml, hown, hts⟩ (c_X8_ofPartner l D cy lo n u q (by omega) (by omega) 0 hM hB hF (xs 1) (xs 2)) (cwV 2 hts gL_law_X8_ofPartner rfl rfl rfl (by decide +kernel) ⟨Nat.le_of_ble_eq_true rfl, Nat.le_of_ble_eq_true rfl⟩) (preV hP hK (x_recv (ci := 8) (q := (RX8, TX8, 8)) hK.1 hP (by omega) (by omega) rfl hM.self)) rfl rfl hl.1 rfl (lv_room (Nat.le_of_ble_eq_true rfl)) dL_law_1315 ⟨by show _ ≤ 662673; omega, by show _ ≤ 7114216; omega⟩) hS (fun v2 u2 H locs hX2 hP hS => ?_)
  obtain ⟨hth, hans, hu2⟩ := hX2
  obtain ⟨n2, hn2⟩ : ∃ n2, n2 = n := ⟨n, rfl⟩
  rw [← hn2] at hP
  refine lv_istore (lv' := [(6, .int v2), (5, .int (r_ofPartner (xs 1) (xs 2)).1), (0, .ref b), (1, .ref o), (2, .ref q), (3, .ref t), (4, .int (0 : Int32))]) hx hb dL_law_1318 hl (by decide) rfl (fun ls hl => ?_)
  refine lv_aload_n hx hb dL_law_1320 rfl (lv_at hl 4 rfl) ?_
  obtain ⟨fs2, hfs2⟩ := hth
  refine x_calli (va_runV (As := []) (rest := []) ⟨hx, hb, hml, hown, hts⟩ (c_X8_thrown l D cy lo n2 u2 q (by omega) (by omega) _ fs2 hfs2) (cwV 0 hts gL_law_X8_thrown rfl rfl rfl (by decide +kernel) ⟨Nat.le_of_ble_eq_true rfl, Nat.le_of_ble_eq_true rfl⟩) (preV hP hK (x_recv (ci := 8) (q := (RX8, TX8, 8)) hK.1 hP (by omega) (by omega) rfl hfs2)) rfl rfl hl.1 rfl (lv_room (Nat.le_of_ble_eq_true rfl)) dL_law_1321 ⟨by show _ ≤ 662673; omega, by show _ ≤ 7114216; omega⟩) hS (fun H locs hP hS => ?_)
  refine lv_iload hx hb dL_law_1324 (lv_at hl 1 rfl) ?_
  refine lv_icmp_eq (tgt := 1331) hx hb dL_law_1326 (by decide) (fun _ => ?_) (fun h9 => absurd rfl h9)
  refine lv_iload hx hb dL_law_1331 (lv_at hl 1 rfl) ?_
  refine lv_if_ne (tgt := 1348) hx hb dL_law_1333 (by decide) (fun _ => ?_) (fun h0 => ?_)
  · refine lv_goto (tgt := 1794) hx hb dL_law_1348 (by decide) ?_
    exact kk H locs ls _ _ (by omega) (by omega) (lv_sub hl [2, 6] rfl) hS
  · refine lv_aload_n hx hb dL_law_1336 rfl (lv_at hl 5 rfl) ?_
    refine lv_iconst (v := 0) hx hb dL_law_1337 (by decide) ?_
    obtain ⟨f9, hf9, hg9⟩ := hf
    have hut : u2 t = .inl (cy 7, 1, .inr (.inl f9)) := (hu2 t (by omega)).trans hf9
    refine x_lald hx hb hK.1 hP (by omega) (by omega) 7 hut rfl (cl_of_nI (i := 0) rfl (by omega)) (vp_in_of_nI (i := 0) rfl (by omega) (by omega)) dL_law_1338 ?_
    refine lv_iload hx hb dL_law_1339 (lv_at hl 0 rfl) ?_
    refine lv_i2l (v := f9 0) hx hb dL_law_1341 (by rw [hg9 h0, hans h0]) ?_
    refine W.lcmp hx hb dL_law_1342 ?_
    rw [cmp_rf]
    refine lv_if_eq (tgt := 1348) hx hb dL_law_1343 (by decide) (fun _ => ?_) (fun h9 => absurd rfl h9)
    refine lv_goto (tgt := 1794) hx hb dL_law_1348 (by decide) ?_
    exact kk H locs ls _ _ (by omega) (by omega) (lv_sub hl [2, 6] rfl) hS
