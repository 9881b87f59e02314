/-! the law: stretch 6 -/
set_option maxRecDepth 100000 in
set_option maxHeartbeats 1000000 in
/-- nothing is due any more -/
theorem lw_due {p : Program} {l : Launch} {e : Env} {s : State} {m : MethodId} {below : List Frame} {meth : Method} {c : Code} {Q : State → Prop} {D : va_G} {cy : Nat → ClassId} {b L : Nat} {xs : Nat → Int32} (hC : LC D cy p s m c b L) {H0 H : Heap} {locs : List Loc} {ls : Array Slot} {cells slots : Nat} (hce : cells ≤ 700000) (hsl : slots ≤ 6000000) {lo n : Nat} (hX : va_X b L xs s H0) (hbl : b < lo) {A A2 : Nat → Prop} {t o d wo wo2 ti k : Nat} {wr wr2 : Nat → Nat} {G T T2 P : Mem} {d2 : Nat} {u v : Nat → va_E} {G1 Tx Ty P1 : Mem} (hI : LI cy u A A2 lo n t o b d d2 wo wr wo2 wr2 G T T2 P) (hTt : SR cy u v A t wr G1 Tx P1 0) (hTo : SR cy u v A2 o wr2 G1 Ty P1 0) (hP : va_P D vwCl (rl lo n v) H) (hl : lv_has ls 17 [(0, .ref b), (1, .int (nI ti)), (2, .ref t), (3, .ref o), (4, .ref (t + 1)), (5, .int (nI k))]) (hS : va_S (fun q : Nat => lo ≤ q) H0 H locs)
    (kk : ∀ (H : Heap) (locs : List Loc) (ls : Array Slot) (v : Nat → va_E), SR cy u v A t wr G1 Tx P1 3 → SR cy u v A2 o wr2 G1 Ty P1 3 → lv_has ls 17 [(0, .ref b), (1, .int (nI ti)), (2, .ref t), (3, .ref o), (4, .ref (t + 1)), (5, .int (nI k))] → va_P D vwCl (rl lo n v) H → va_S (fun q : Nat => lo ≤ q) H0 H locs → W p l e room_1 s m #[Value.ref b] below meth c H locs cells slots Q (F0 m 549 ls [])) : W p l e room_1 s m #[Value.ref b] below meth c H locs cells slots Q (F0 m 512 ls []) := by
  obtain ⟨hx, hb, hml, hown, hts, hKI, hL⟩ := id hC
  have hK : KK D cy s := hKI.1
  have htb := hI.1.tb
  have hob := hI.2.1.tb
  have key : ∀ (r j : Nat) (H : Heap) (locs : List Loc) (ls : Array Slot) (v : Nat → va_E), j + r = 3 → lv_has ls 17 [(0, .ref b), (1, .int (nI ti)), (2, .ref t), (3, .ref o), (4, .ref (t + 1)), (5, .int (nI k)), (16, .int (nI j))] → SR cy u v A t wr G1 Tx P1 j → SR cy u v A2 o wr2 G1 Ty P1 j → va_P D vwCl (rl lo n v) H → va_S (fun q : Nat => lo ≤ q) H0 H locs → W p l e room_1 s m #[Value.ref b] below meth c H locs cells slots Q (F0 m 515 ls []) := by
    intro r
    induction r with
    | zero =>
      intro j H locs ls v hj hl hTt hTo hP hS
      have hj : j = 3 := by omega
      subst hj
      refine lv_iload hx hb dL_law_515 (lv_at hl 6 rfl) ?_
      refine lv_iconst (v := 3) hx hb dL_law_517 (by decide) ?_
      refine lv_icmp_ge (tgt := 549) hx hb dL_law_518 (by decide) (fun _ => ?_) (fun c9 => absurd (show nI 3 ≤ nI 3 by decide) c9)
      exact kk H locs ls v hTt hTo (lv_sub hl [0, 1, 2, 3, 4, 5] rfl) hP hS
    | succ r ih =>
      intro j H locs ls v hj hl hTt hTo hP hS
      have hj3 : j < 3 := by omega
      refine lv_iload hx hb dL_law_515 (lv_at hl 6 rfl) ?_
      refine lv_iconst (v := 3) hx hb dL_law_517 (by decide) ?_
      refine lv_icmp_ge (tgt := 549) hx hb dL_law_518 (by decide) (fun c9 => absurd ((nI_leI (a := 3) (b := j) (by omega) (by omega)).mp c9) (by omega)) (fun _ => ?_)
      obtain ⟨f, hf, hfi⟩ := hTt.wells hI.1
      obtain ⟨f2, hf2, hfi2⟩ := hTo.wells hI.2.1
      have hwo := hI.1.inn wo hI.1.woA.1
      have hwo2 := hI.2.1.inn wo2 hI.2.1.woA.1
      have hwA := hI.1.wrA j hj3
      have hwA2 := hI.2.1.wrA j hj3
      have hwr := hI.1.inn (wr j) hwA.1
      have hwr2 := hI.2.1.inn (wr2 j) hwA2.1
      refine lv_aload_n hx hb dL_law_521 rfl (lv_at hl 2 rfl) ?_
      refine x_get (ref := RX7) (C := RX7) (T := TX7) (N := 13) (ci := 7) (v := .ref wo) hx hb hts inlX7 hown hK.1 hP (by omega) (by omega) (hTt.obj hI.1) rfl 6 (by decide) (hts (.fieldLink RL 74 "PoreFieldLaw$Told" "wells" "[[I") (by decide +kernel)) (fun _ h9 => h9) rfl dL_law_522 ?_
      refine lv_iload hx hb dL_law_525 (lv_at hl 6 rfl) ?_
      refine x_aaldA hx hb hK.1 hP (by omega) (by omega) 6 hf rfl (cl_of_nI (i := j) rfl (by omega)) (hfi j hj3) (vp_in_of_nI (i := j) rfl (by omega) (by omega)) dL_law_527 ?_
      refine lv_bipush (v := 13) hx hb dL_law_528 (by decide) ?_
      refine lv_aload_n hx hb dL_law_530 rfl (lv_at hl 3 rfl) ?_
      refine x_get (ref := RX7) (C := RX7) (T := TX7) (N := 13) (ci := 7) (v := .ref wo2) hx hb hts inlX7 hown hK.1 hP (by omega) (by omega) (hTo.obj hI.2.1) rfl 6 (by decide) (hts (.fieldLink RL 74 "PoreFieldLaw$Told" "wells" "[[I") (by decide +kernel)) (fun _ h9 => h9) rfl dL_law_531 ?_
      refine lv_iload hx hb dL_law_534 (lv_at hl 6 rfl) ?_
      refine x_aaldA hx hb hK.1 hP (by omega) (by omega) 6 hf2 rfl (cl_of_nI (i := j) rfl (by omega)) (hfi2 j hj3) (vp_in_of_nI (i := j) rfl (by omega) (by omega)) dL_law_536 ?_
      refine lv_bipush (v := 13) hx hb dL_law_537 (by decide) ?_
      refine lv_iconst (v := 0) hx hb dL_law_539 (by decide) ?_
      refine lv_dup_x2 hx hb dL_law_540 rfl rfl rfl ?_
      obtain ⟨r2, g1, g2⟩ := hTo.2.2 j hj3
      rw [if_neg (Nat.lt_irrefl j)] at g2
      refine x_iast hx hb hK.1 hP hS (by omega) (by omega) 0 g2 rfl (cl_of_nI (i := 13) rfl (by omega)) (vp_in_of_nI (i := 13) rfl (by omega) (by omega)) dL_law_541 (fun H locs hP hS => ?_)
      have hTo := SR.step hI.2.1 hj3 hTo g1
      have hTt := SR.oth hI.1 hTt (u := va_up v (wr2 j) (.inl (cy 0, 14, .inl (upd r2 13 0)))) (fun a ha => xu_ne (fun q => hI.2.2.1 a ha (by rw [q]; exact hwA2.1)))
      refine x_gen hP (fun v1 ev1 hP => ?_)
      rw [← ev1] at hTo hTt
      obtain ⟨r1, g3, g4⟩ := hTt.2.2 j hj3
      rw [if_neg (Nat.lt_irrefl j)] at g4
      refine x_iast hx hb hK.1 hP hS (by omega) (by omega) 0 g4 rfl (cl_of_nI (i := 13) rfl (by omega)) (vp_in_of_nI (i := 13) rfl (by omega) (by omega)) dL_law_542 (fun H locs hP hS => ?_)
      have hTo := SR.oth hI.2.1 hTo (u := va_up v1 (wr j) (.inl (cy 0, 14, .inl (upd r1 13 0)))) (fun a ha => xu_ne (fun q => hI.no ha (by rw [q]; exact hwA.1)))
      have hTt := SR.step hI.1 hj3 hTt g3
      refine lv_iinc (v := (nI (j + 1))) (lv' := [(16, .int (nI (j + 1))), (0, .ref b), (1, .int (nI ti)), (2, .ref t), (3, .ref o), (4, .ref (t + 1)), (5, .int (nI k))]) hx hb dL_law_543 hl (k := 6) rfl (nI_1 _) (by decide) rfl (fun ls hl => ?_)
      refine lv_goto (tgt := 515) hx hb dL_law_546 (by decide) ?_
      exact ih (j + 1) H locs ls _ (by omega) (lv_sub hl [1, 2, 3, 4, 5, 6, 0] rfl) hTt hTo hP hS
  refine lv_iconst (v := 0) hx hb dL_law_512 (by decide) ?_
  refine lv_istore (lv' := [(16, .int (0 : Int32)), (0, .ref b), (1, .int (nI ti)), (2, .ref t), (3, .ref o), (4, .ref (t + 1)), (5, .int (nI k))]) hx hb dL_law_513 hl (by decide) rfl (fun ls hl => ?_)
  exact key 3 0 H locs ls v (by omega) (lv_sub hl [1, 2, 3, 4, 5, 6, 0] rfl) hTt hTo hP hS
