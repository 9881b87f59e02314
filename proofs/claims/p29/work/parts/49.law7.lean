/-! the law: a time's seven turns -/
section
variable {cy : Nat → ClassId} {w : Nat → va_E} {A : Nat → Prop} {lo n n' t b d wo nd : Nat} {wr : Nat → Nat} {G T P : Mem}
theorem TW.more (h : TW cy w A lo n t b d wo wr nd G T P) (hn : n ≤ n') : TW cy w A lo n' t b d wo wr nd G T P := by
  obtain ⟨a1, a2, a3, a4, a5, a6, a7, a8, a9, a10, a11, a12, a13, a14⟩ := h
  exact ⟨a1, a2, a3, a4, a5, a6, a7, a8, a9, a10, a11, a12, a13, fun a ha => ⟨(a14 a ha).1, by have := (a14 a ha).2; omega⟩⟩
end
set_option maxRecDepth 100000 in
set_option maxHeartbeats 1000000 in
/-- seven turns -/
theorem lw_ks {p : Program} {l : Launch} {e : Env} {s : State} {m : MethodId} {below : List Frame} {meth : Method} {c : Code} {Q : State → Prop} {D : va_G} {cy : Nat → ClassId} {b L : Nat} {xs : Nat → Int32} (hC : LC D cy p s m c b L) {H0 : Heap} {cells slots : Nat} (hce : cells ≤ 700000) (hsl : slots ≤ 6000000) {lo n : Nat} (hX : va_X b L xs s H0) (hbl : b < lo) {A A2 : Nat → Prop} {t o wo wo2 ti : Nat} {wr wr2 : Nat → Nat} (d0 : Nat) (hd0 : d0 < 700000)
    (kk : ∀ (H : Heap) (locs : List Loc) (ls : Array Slot), lv_has ls 17 [(0, .ref b), (1, .int (nI ti))] → va_S (fun q : Nat => lo ≤ q) H0 H locs → W p l e room_1 s m #[Value.ref b] below meth c H locs cells slots Q (F0 m 555 ls [])) :
    ∀ (r k : Nat) (H : Heap) (locs : List Loc) (ls : Array Slot) (w : Nat → va_E) (d : Nat) (G T T2 P : Mem), k + r = 7 → LI cy w A A2 lo n t o b d d wo wr wo2 wr2 G T T2 P → (∃ B : Int, WI B G ∧ B ≤ 4752 + 864 * (k : Int)) → (∃ nb, nb ≤ 3 ∧ P 101 5 = nI nb) → d ≤ d0 + 12 * k → lv_has ls 17 [(0, .ref b), (1, .int (nI ti)), (2, .ref t), (3, .ref o), (4, .ref (t + 1)), (5, .int (nI k))] → va_P D vwCl (rl lo n w) H → va_S (fun q : Nat => lo ≤ q) H0 H locs → W p l e room_1 s m #[Value.ref b] below meth c H locs cells slots Q (F0 m 66 ls []) := by
  obtain ⟨hx, hb, hml, hown, hts, hKI, hL⟩ := id hC
  have hK : KK D cy s := hKI.1
  intro r
  induction r with
  | zero =>
    intro k H locs ls w d G T T2 P hk hI hB h5 hd hl hP hS
    have hk : k = 7 := by omega
    subst hk
    refine lv_iload hx hb dL_law_66 (lv_at hl 5 rfl) ?_
    refine lv_bipush (v := 7) hx hb dL_law_68 (by decide) ?_
    refine lv_icmp_ge (tgt := 555) hx hb dL_law_70 (by decide) (fun _ => ?_) (fun c9 => absurd (show nI 7 ≤ nI 7 by decide) c9)
    exact kk H locs ls (lv_sub hl [0, 1] rfl) hS
  | succ r ih =>
    intro k H locs ls w d G T T2 P hk hI hB h5 hd hl hP hS
    obtain ⟨B, hW, hB⟩ := hB
    obtain ⟨nb, hnb3, h5⟩ := h5
    refine lv_iload hx hb dL_law_66 (lv_at hl 5 rfl) ?_
    refine lv_bipush (v := 7) hx hb dL_law_68 (by decide) ?_
    refine lv_icmp_ge (tgt := 555) hx hb dL_law_70 (by decide) (fun c9 => absurd ((nI_leI (a := 7) (b := k) (by omega) (by omega)).mp c9) (by omega)) (fun _ => ?_)
    refine lw_turns hC hce hsl hX hbl hI (by omega) hl hP hS (fun H locs ls w d1 iw ic mo ot hiw hic hnb hm1 hm4 hot hd1 hI hl hP hS => ?_)
    have hW1 := turn_wi (L := L) (xs := xs) (d := d) (nd := 3) (P := P) hW
    have h51 : (m_turn L xs d 3 G P).1.2 101 5 = nI nb := (congrFun (k1_turn (L := L) (xs := xs) (d := d) (nd := 3) (G := G) (P := P)) 5).trans h5
    generalize (m_turn L xs d 3 G P).1.1 = G1 at hI hW1
    generalize (m_turn L xs d 3 G P).1.2 = P1 at hI h51
    refine lw_asks hC hce hsl hX hbl hiw hic hnb hm1 hm4 hot hI hl hP hS (fun H locs ls w T T2 bv hbv hI hl hP hS => ?_)
    refine lw_book hC hce hsl hX hbl (by omega) hnb3 h51 hI hl hP hS (fun H locs ls w T T2 P2 hb2 hpk hI hl hP hS => ?_)
    rw [← hpk iw] at hbv
    refine lw_best hC hce hsl hX hbl (by omega) hiw hm1 hm4 hot hW1 (by omega) hbv hI hl hP hS (fun H locs ls w T T2 hI hl hP hS => ?_)
    refine lw_pass hC hce hsl hX hbl hic hnb hm1 hm4 hI hl hP hS (fun H locs ls v1 v5 T T2 Tx Ty hI hTt hTo hl hP hS => ?_)
    refine lw_due hC hce hsl hX hbl hI hTt hTo hP hl hS (fun H locs ls v hTt hTo hl hP hS => ?_)
    have g1 := hI.g
    have gc : Cg G1 (m_pass 3 G1 P2 mo).1.2 := cg_pass mo
    have p0 := pass_p0 (nd := 3) (G := G1) (P := P2) (by omega) mo
    have p1 : ∀ i, i < 3 → (m_pass 3 G1 P2 mo).2 (103 + 2 * i) 1 = 0 := fun i hi => pass_p1 (by omega) hm1 hi
    have hgp := gi_pass (P := P2) g1 mo
    have hwp := wi_pass (P := P2) hW1 g1 (k := mo) (by omega) (by omega)
    have hpp := pb_pass (G := G1) (by omega) hI.pb hm1
    have hb3 : ∃ nb, nb ≤ 3 ∧ (m_pass 3 G1 P2 mo).2 101 5 = nI nb := by
      obtain ⟨nb, q1, q2⟩ := hb2
      exact ⟨nb, q1, (congrFun (k1_pass (nd := 3) (G := G1) (P := P2) mo) 5).trans q2⟩
    generalize (m_pass 3 G1 P2 mo).1.2 = G3 at gc hgp hwp hTt hTo
    generalize (m_pass 3 G1 P2 mo).2 = P3 at p0 p1 hpp hb3 hTt hTo
    have hS1 : ∀ i, i < 16 → G3 (5 + 2 * i) 2 = G1 (5 + 2 * i) 2 ∧ G3 (5 + 2 * i) 3 = G1 (5 + 2 * i) 3 := fun i hi => by
      rw [gc.1 (5 + 2 * i) (by omega)]
      exact ⟨rfl, rfl⟩
    have hS2 : ∀ i, i < 3 → G3 (37 + 2 * i) 0 = G1 (37 + 2 * i) 0 ∧ G3 (37 + 2 * i) 2 = G1 (37 + 2 * i) 2 ∧ G3 (37 + 2 * i) 3 = G1 (37 + 2 * i) 3 ∧ P3 (103 + 2 * i) 0 = P2 (103 + 2 * i) 0 ∧ P3 (103 + 2 * i) 1 = 0 := fun i hi => by
      rw [gc.1 (37 + 2 * i) (by omega)]
      exact ⟨rfl, rfl, rfl, p0 i (by omega), p1 i hi⟩
    have hS3 : ∀ j, j < 3 → G3 3 j = G1 3 j := fun j _ => by rw [gc.1 3 (by omega)]
    have hI2 : LI cy v A A2 lo n t o b d1 d1 wo wr wo2 wr2 G3 Tx Ty P3 := ⟨hTt.fin hI.1 gc.2.2.1 hS1 hS2 hS3, hTo.fin hI.2.1 gc.2.2.1 hS1 hS2 hS3, hI.2.2.1, hgp, hpp⟩
    refine lv_iinc (v := (nI (k + 1))) (lv' := [(5, .int (nI (k + 1))), (0, .ref b), (1, .int (nI ti)), (2, .ref t), (3, .ref o), (4, .ref (t + 1))]) hx hb dL_law_549 hl (k := 5) rfl (nI_1 _) (by decide) rfl (fun ls hl => ?_)
    refine lv_goto (tgt := 66) hx hb dL_law_552 (by decide) ?_
    exact ih (k + 1) H locs ls v d1 G3 Tx Ty P3 (by omega) hI2 ⟨_, hwp, by omega⟩ hb3 (by omega) (lv_sub hl [1, 2, 3, 4, 5, 0] rfl) hP hS
