/-! a month brings up 0 or more -/
section
variable {B : Int} {M : Mem} {nd : Nat}
/-- what is told, within its bounds -/
def CI (M : Mem) : Prop := (∀ i, i < 16 → 1 ≤ (M (5 + 2 * i) 0).toInt) ∧ (∀ w, w < 6 → 0 ≤ (M (37 + 2 * w) 2).toInt ∧ (M (37 + 2 * w) 2).toInt ≤ 9) ∧ (∀ f, f < 3 → 0 ≤ (M 3 f).toInt ∧ (M 3 f).toInt ≤ 1000000) ∧ (0 ≤ (M 0 4).toInt ∧ (M 0 4).toInt ≤ 1000000) ∧ (M 0 5).toInt ≤ 1000000
theorem CI.cg {M' : Mem} (h : CI M) (c : Cg M M') : CI M' := by
  refine ⟨fun i hi => ?_, fun w hw => ?_, fun f hf => ?_, ?_, ?_⟩
  · rw [c.1 (5 + 2 * i) (by omega)]; exact h.1 i hi
  · rw [c.1 (37 + 2 * w) (by omega)]; exact h.2.1 w hw
  · rw [c.1 3 (by omega)]; exact h.2.2.1 f hf
  · rw [c.2.2.1]; exact h.2.2.2.1
  · rw [c.2.2.2]; exact h.2.2.2.2
theorem pressure_int (h : FI B M) (hB : B ≤ 1000000) (c : CI M) {i : Nat} (hi : i < 16) : 0 ≤ (m_pressure M i).toInt ∧ (m_pressure M i).toInt ≤ 100000000 := by
  have ha := h.all hB hi
  have hr := c.1 i hi
  have e : (100 * m_all M i).toInt = 100 * (m_all M i).toInt := im (by rw [show (100 : Int32).toInt = 100 from by decide]) (by omega) (by omega)
  have e2 : (m_pressure M i).toInt = 100 * (m_all M i).toInt / (M (5 + 2 * i) 0).toInt := by
    unfold m_pressure
    rw [idv (by omega) (by omega), e]
  rw [e2]
  have h1 : 100 * (m_all M i).toInt / (M (5 + 2 * i) 0).toInt ≤ 100 * (m_all M i).toInt := Int.ediv_le_self _ (by omega)
  have h2 : 0 ≤ 100 * (m_all M i).toInt / (M (5 + 2 * i) 0).toInt := Int.ediv_nonneg (by omega) (by omega)
  omega
/-- how far the month is -/
def MI (M : Mem) : Prop := (∀ f, f < 3 → 0 ≤ (M 4 f).toInt ∧ (M 4 f).toInt ≤ (M 3 f).toInt) ∧ (0 ≤ (M 0 6).toInt ∧ (M 0 6).toInt ≤ (M 0 5).toInt) ∧ (M 4 2).toInt ≤ (M 0 8).toInt ∧ (M 0 8).toInt ≤ 2000000
theorem may_int (h : MI M) (c : CI M) {f : Nat} (hf : f < 3) : 0 ≤ (m_may M f).toInt ∧ (M 4 f).toInt + (m_may M f).toInt ≤ (M 3 f).toInt ∧ (f = 0 → (M 0 6).toInt + (m_may M f).toInt ≤ (M 0 5).toInt) ∧ (f = 2 → (M 4 2).toInt + (m_may M f).toInt ≤ (M 0 8).toInt) := by
  have h1 := h.1 f hf
  have h2 := h.2
  have h3 := c.2.2.1 f hf
  have h4 := c.2.2.2
  have h5 := h.1 2 (by omega)
  have e1 : (M 3 f - M 4 f).toInt = (M 3 f).toInt - (M 4 f).toInt := isb (by omega) (by omega)
  have e2 : (M 0 5 - M 0 6).toInt = (M 0 5).toInt - (M 0 6).toInt := isb (by omega) (by omega)
  have e3 : (M 0 8 - M 4 2).toInt = (M 0 8).toInt - (M 4 2).toInt := isb (by omega) (by omega)
  unfold m_may
  rcases (by omega : f = 0 ∨ f = 1 ∨ f = 2) with rfl | rfl | rfl
  · rw [if_pos (by decide), jmin_int, e1, e2]
    refine ⟨by omega, by omega, fun _ => by omega, fun q => absurd q (by omega)⟩
  · rw [if_neg (by decide), if_neg (by decide), e1]
    refine ⟨by omega, by omega, fun q => absurd q (by omega), fun q => absurd q (by omega)⟩
  · rw [if_neg (by decide), if_pos (by decide), jmin_int, e1, e3]
    refine ⟨by omega, by omega, fun q => absurd q (by omega), fun _ => by omega⟩
theorem times_int (h : FI B M) (hB : B ≤ 1000000) (m : MI M) (c : CI M) {w : Nat} (hw : w < 6) (hc : cix M w < 16) : 0 ≤ (m_times M w).toInt ∧ ∀ f, f < 3 → (m_times M w).toInt ≤ (m_mostTimes M (cix M w) f (m_may M f)).toInt := by
  have hp := pressure_int h hB c hc
  have hk := c.2.1 w hw
  have ha := h.all hB hc
  have n0 := most_nn (M := M) (i := cix M w) (f := 0) (by omega) (h.le hc (by omega)).1 (may_int (f := 0) m c (by omega)).1 (ha.2.2.2 0 (by omega))
  have n1 := most_nn (M := M) (i := cix M w) (f := 1) (by omega) (h.le hc (by omega)).1 (may_int (f := 1) m c (by omega)).1 (ha.2.2.2 1 (by omega))
  have n2 := most_nn (M := M) (i := cix M w) (f := 2) (by omega) (h.le hc (by omega)).1 (may_int (f := 2) m c (by omega)).1 (ha.2.2.2 2 (by omega))
  have e0 : (m_pressure M (cix M w) - 50).toInt = (m_pressure M (cix M w)).toInt - 50 := by
    have z : (50 : Int32).toInt = 50 := by decide
    rw [isb (by omega) (by omega), z]
  have e1 : (jmax 0 (m_pressure M (cix M w) - 50)).toInt = max 0 ((m_pressure M (cix M w)).toInt - 50) := by rw [jmax_int, e0, z32]
  have hb := mul_bd (A := 9) (B := 100000000) hk.1 hk.2 (show 0 ≤ max 0 ((m_pressure M (cix M w)).toInt - 50) by omega) (by omega)
  have e2 : (M (37 + 2 * w) 2 * jmax 0 (m_pressure M (cix M w) - 50)).toInt = (M (37 + 2 * w) 2).toInt * max 0 ((m_pressure M (cix M w)).toInt - 50) := im (by rw [e1]) (by omega) (by omega)
  have e3 : 0 ≤ (m_times0 M w).toInt := by
    unfold m_times0
    have z : (100 : Int32).toInt = 100 := by decide
    rw [idv (by rw [e2]; exact hb.1) (by omega), e2, z]
    exact Int.ediv_nonneg hb.1 (by omega)
  have e4 : (m_times M w).toInt = min (min (min (m_times0 M w).toInt (m_mostTimes M (cix M w) 0 (m_may M 0)).toInt) (m_mostTimes M (cix M w) 1 (m_may M 1)).toInt) (m_mostTimes M (cix M w) 2 (m_may M 2)).toInt := by
    show (jmin (jmin (jmin (m_times0 M w) (m_mostTimes M (cix M w) 0 (m_may M 0))) (m_mostTimes M (cix M w) 1 (m_may M 1))) (m_mostTimes M (cix M w) 2 (m_may M 2))).toInt = _
    rw [jmin_int, jmin_int, jmin_int]
  rw [e4]
  refine ⟨by omega, fun f hf => ?_⟩
  rcases (by omega : f = 0 ∨ f = 1 ∨ f = 2) with rfl | rfl | rfl <;> omega
theorem mvs_k {i f k2 : Nat} {t al : Int32} {k j : Nat} (h1 : ¬ (k = 6 + 2 * i ∧ j = f)) (h2 : ¬ (k = k2 ∧ j = f)) : m_mvs i t al k2 f M k j = M k j := by
  unfold m_mvs
  rw [u2_ne h2, u2_ne h1]
theorem mvs_g {i f k2 : Nat} {t al : Int32} (hk : k2 ≠ 6 + 2 * i) : m_mvs i t al k2 f M k2 f = M k2 f + m_mv M i f t al := by
  unfold m_mvs
  rw [u2_same, u2_ne (by omega)]
/-- what is left of a row that fluid f is still to move from, and to -/
theorem mvs_pre {i k2 : Nat} {t al : Int32} : ∀ n k j, (k ≠ 6 + 2 * i ∧ k ≠ k2) ∨ n ≤ j → fo (m_mvs i t al k2) n M k j = M k j
  | 0, _, _, _ => rfl
  | n + 1, k, j, h => by
    show m_mvs i t al k2 n (fo (m_mvs i t al k2) n M) k j = _
    rw [mvs_k (by omega) (by omega)]
    exact mvs_pre n k j (by omega)
theorem mvs_post {i k2 f : Nat} {t al : Int32} (hk : k2 ≠ 6 + 2 * i) : ∀ n, f < n → fo (m_mvs i t al k2) n M k2 f = M k2 f + m_mv (fo (m_mvs i t al k2) f M) i f t al
  | 0, h => absurd h (by omega)
  | n + 1, h => by
    show m_mvs i t al k2 n (fo (m_mvs i t al k2) n M) k2 f = _
    by_cases e : f = n
    · subst e
      rw [mvs_g hk, mvs_pre f k2 f (by omega)]
    · rw [mvs_k (by omega) (by omega)]
      exact mvs_post hk n (by omega)
/-- what a well gives is no more than may come up -/
theorem gave_int (h : FI B M) (hB : B ≤ 1000000) (m : MI M) (c : CI M) {w : Nat} (hw : w < 6) (hc : cix M w < 16) (hz : ∀ f, f < 3 → M (38 + 2 * w) f = 0) {f : Nat} (hf : f < 3) : 0 ≤ (m_moveOut M (cix M w) (m_times M w) (38 + 2 * w) (38 + 2 * w) f).toInt ∧ (m_moveOut M (cix M w) (m_times M w) (38 + 2 * w) (38 + 2 * w) f).toInt ≤ (m_may M f).toInt := by
  have ht := times_int h hB m c hw hc
  have hm := may_int m c hf
  have ha := h.all hB hc
  have hl := h.le hc hf
  unfold m_moveOut
  split
  · rename_i hp
    have hp := Int32.lt_iff_toInt_lt.mp hp
    rw [z32] at hp
    rw [mvs_post (by omega) 3 hf, hz f hf, Int32.zero_add]
    have eN : fo (m_mvs (cix M w) (m_times M w) (m_all M (cix M w)) (38 + 2 * w)) f M (6 + 2 * cix M w) f = M (6 + 2 * cix M w) f := mvs_pre f _ f (by omega)
    have eF : Fl (fo (m_mvs (cix M w) (m_times M w) (m_all M (cix M w)) (38 + 2 * w)) f M) (cix M w) f = Fl M (cix M w) f := by unfold Fl; rw [eN]
    exact ⟨(mv_ok hf (by rw [eF]; exact hl.1) hp ht.1).1, mv_may hf hl.1 hm.1 (ha.2.2.2 f hf) hp ht.1 (ht.2 f hf) eN⟩
  · rw [hz f hf, z32]
    omega
theorem ups_ne {w : Nat} : ∀ n k j, (k ≠ 4 ∨ n ≤ j) → fo (m_upS w) n M k j = M k j
  | 0, _, _, _ => rfl
  | n + 1, k, j, h => by
    show u2 (fo (m_upS w) n M) 4 n (fo (m_upS w) n M 4 n + fo (m_upS w) n M (38 + 2 * w) n) k j = _
    rw [u2_ne (by omega)]
    exact ups_ne n k j (by omega)
theorem ups_at {w f : Nat} : ∀ n, f < n → fo (m_upS w) n M 4 f = M 4 f + M (38 + 2 * w) f
  | 0, h => absurd h (by omega)
  | n + 1, h => by
    show u2 (fo (m_upS w) n M) 4 n (fo (m_upS w) n M 4 n + fo (m_upS w) n M (38 + 2 * w) n) 4 f = _
    by_cases e : f = n
    · subst e
      rw [u2_same, ups_ne f 4 f (by omega), ups_ne f (38 + 2 * w) f (by omega)]
    · rw [u2_ne (by omega)]
      exact ups_at n (by omega)
/-- fluids, what is told, how far the month is -/
def PI (B : Int) (M : Mem) : Prop := FI B M ∧ MI M ∧ CI M
theorem moveOut_k {i k2 : Nat} {t : Int32} {k j : Nat} (h1 : k ≠ 6 + 2 * i) (h2 : k ≠ k2) : m_moveOut M i t k2 k j = M k j := by
  unfold m_moveOut
  split
  · exact mvs_pre 3 k j (Or.inl ⟨h1, h2⟩)
  · rfl
theorem produce_int (h : PI B M) (hB : B ≤ 1000000) {w : Nat} (hw : w < 6) (hc : cix M w < 16) (hz : ∀ f, f < 3 → M (38 + 2 * w) f = 0) : PI B (m_produce w M) := by
  obtain ⟨hF, hM, hC⟩ := h
  have ht := times_int hF hB hM hC hw hc
  have hg := fun f (hf : f < 3) => gave_int hF hB hM hC hw hc hz hf
  have hy := fun f (hf : f < 3) => may_int hM hC hf
  have hFm : FI B (m_moveOut M (cix M w) (m_times M w) (38 + 2 * w)) := hF.moveOut hB hc ht.1 (Or.inr (by omega))
  have k3 : ∀ j, m_moveOut M (cix M w) (m_times M w) (38 + 2 * w) 3 j = M 3 j := fun j => moveOut_k (by omega) (by omega)
  have k4 : ∀ j, m_moveOut M (cix M w) (m_times M w) (38 + 2 * w) 4 j = M 4 j := fun j => moveOut_k (by omega) (by omega)
  have k0 : ∀ j, m_moveOut M (cix M w) (m_times M w) (38 + 2 * w) 0 j = M 0 j := fun j => moveOut_k (by omega) (by omega)
  have hcc := hC.2.2
  refine ⟨?_, ?_, hC.cg cg_produce⟩
  · unfold m_produce m_produce1
    refine FI.ne ?_ (by omega)
    exact ((hFm.ne (by omega)).ne (by omega)).ne (by omega)
  · unfold m_produce m_produce1
    generalize m_moveOut M (cix M w) (m_times M w) (38 + 2 * w) = N at hg k3 k4 k0
    have g0 := hg 0 (by omega)
    have y0 := hy 0 (by omega)
    have g2 := hg 2 (by omega)
    have y2 := hy 2 (by omega)
    have y00 := y0.2.2.1 rfl
    have y22 := y2.2.2.2 rfl
    have m0 := hM.2
    refine ⟨fun f hf => ?_, ?_, ?_, ?_⟩
    · have g := hg f hf
      have y := hy f hf
      have mm := hM.1 f hf
      have c3 := hcc.1 f hf
      rw [u2_ne (by omega), u2_ne (by omega), ups_at 3 hf, ups_ne 3 3 f (by omega), k3, k4, ia (by omega) (by omega)]
      omega
    · rw [u2_same, u2_ne (by omega), ups_ne 3 0 6 (by omega), ups_ne 3 0 5 (by omega), ups_ne 3 (38 + 2 * w) 0 (by omega), k0, k0, ia (by omega) (by omega)]
      omega
    · have c3 := hcc.1 2 (by omega)
      have mm := hM.1 2 (by omega)
      rw [u2_ne (by omega), u2_ne (by omega), ups_at 3 (by omega), ups_ne 3 0 8 (by omega), k0, k4, ia (by omega) (by omega)]
      omega
    · rw [u2_ne (by omega), ups_ne 3 0 8 (by omega), k0]
      omega
/-- who is still to produce gave nothing yet -/
def ZI (nd r k : Nat) (M : Mem) : Prop := ∀ w, w < nd → (∀ r', (r' < r ∨ (r' = r ∧ w < k)) → M (37 + 2 * w) 3 ≠ nI (r' + 1)) → ∀ f, f < 3 → M (38 + 2 * w) f = 0
theorem produce_k {w k j : Nat} (hw : w < 6) (h1 : k ≠ 6 + 2 * cix M w) (h2 : k ≠ 38 + 2 * w) (h4 : k ≠ 4) (h0 : ¬ (k = 0 ∧ j = 6)) : m_produce w M k j = M k j := by
  unfold m_produce m_produce1
  rw [u2_ne h0, ups_ne 3 k j (Or.inl h4), moveOut_k h1 h2]
theorem rankS_int (h : PI B M) (hB : B ≤ 1000000) (g : GI nd M) {r w : Nat} (hr : r < 9) (hw : w < nd) (z : ZI nd r w M) : PI B (m_rankS r w M) ∧ ZI nd r (w + 1) (m_rankS r w M) := by
  have h6 : w < 6 := Nat.lt_of_lt_of_le hw g.1
  have hc := g.cx h6
  by_cases h1 : M (37 + 2 * w) 0 = 0
  · by_cases h2 : M (37 + 2 * w) 3 = nI (r + 1)
    · have e : m_rankS r w M = m_produce w M := by unfold m_rankS; rw [if_pos h1, if_pos h2]
      rw [e]
      have hz := z w hw (fun r' hr' => by
        rw [h2]
        intro q
        have := (nI_eq (a := r + 1) (b := r' + 1) (by omega) (by omega)).mp q
        omega)
      refine ⟨produce_int h hB h6 hc hz, fun w' hw' hn f hf => ?_⟩
      have e3 : m_produce w M (37 + 2 * w') 3 = M (37 + 2 * w') 3 := by rw [cg_produce.1 (37 + 2 * w') (by omega)]
      by_cases q : w' = w
      · subst q
        exact absurd (e3.trans h2) (hn r (by omega))
      · rw [produce_k h6 (by omega) (by omega) (by omega) (by omega)]
        exact z w' hw' (fun r' hr' => by
          have := hn r' (by omega)
          rw [e3] at this
          exact this) f hf
    · have e : m_rankS r w M = M := by unfold m_rankS; rw [if_pos h1, if_neg h2]
      rw [e]
      refine ⟨h, fun w' hw' hn f hf => z w' hw' (fun r' hr' => hn r' (by omega)) f hf⟩
  · have e : m_rankS r w M = M := by unfold m_rankS; rw [if_neg h1]
    rw [e]
    exact ⟨h, fun w' hw' hn f hf => z w' hw' (fun r' hr' => hn r' (by omega)) f hf⟩
theorem rank_int (h : PI B M) (hB : B ≤ 1000000) (g : GI nd M) {r : Nat} (hr : r < 9) (z : ZI nd r 0 M) : PI B (m_rank nd r M) ∧ ZI nd (r + 1) 0 (m_rank nd r M) := by
  have key : ∀ n, n ≤ nd → PI B (fo (m_rankS r) n M) ∧ ZI nd r n (fo (m_rankS r) n M) := by
    intro n
    induction n with
    | zero => intro _; exact ⟨h, z⟩
    | succ n ih =>
      intro hn
      have hi := ih (by omega)
      exact rankS_int hi.1 hB (g.cg cg_rank1) hr (by omega) hi.2
  have hk := key nd (Nat.le_refl nd)
  exact ⟨hk.1, fun w hw hn f hf => hk.2 w hw (fun r' hr' => hn r' (by omega)) f hf⟩
theorem ranks_int (h : PI B M) (hB : B ≤ 1000000) (g : GI nd M) (z : ZI nd 0 0 M) : PI B (fo (m_rank nd) 9 M) := by
  have key : ∀ n, n ≤ 9 → PI B (fo (m_rank nd) n M) ∧ ZI nd n 0 (fo (m_rank nd) n M) := by
    intro n
    induction n with
    | zero => intro _; exact ⟨h, z⟩
    | succ n ih =>
      intro hn
      have hi := ih (by omega)
      exact rank_int hi.1 hB (g.cg cg_ranks) (by omega) hi.2
  exact (key 9 (Nat.le_refl 9)).1
end
