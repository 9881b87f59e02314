/-! the whole month, and months -/
section
variable {B : Int} {M : Mem} {nd : Nat}
/-- fluids and what is told, and what the tank has -/
def WI (B : Int) (M : Mem) : Prop := FI B M ∧ CI M ∧ 0 ≤ (M 0 6).toInt ∧ (M 0 6).toInt ≤ (M 0 5).toInt
theorem forget_k {w k j : Nat} (h : k ≠ 38 + 2 * w) : m_forget w M k j = M k j := by
  show u2 (u2 (u2 M (38 + 2 * w) 0 0) (38 + 2 * w) 1 0) (38 + 2 * w) 2 0 k j = _
  rw [u2_ne (by omega), u2_ne (by omega), u2_ne (by omega)]
theorem forget_z {w f : Nat} (hf : f < 3) : m_forget w M (38 + 2 * w) f = 0 := by
  show u2 (u2 (u2 M (38 + 2 * w) 0 0) (38 + 2 * w) 1 0) (38 + 2 * w) 2 0 (38 + 2 * w) f = _
  rcases (by omega : f = 0 ∨ f = 1 ∨ f = 2) with rfl | rfl | rfl
  · rw [u2_ne (by omega), u2_ne (by omega), u2_same]
  · rw [u2_ne (by omega), u2_same]
  · rw [u2_same]
theorem startS_k {w k j : Nat} (h : k ≠ 38 + 2 * w) (h0 : ¬ (k = 0 ∧ j = 8)) : m_startS w M k j = M k j := by
  unfold m_startS
  split
  · rw [u2_ne h0, forget_k h]
  · rw [forget_k h]
theorem start1_k {k j : Nat} (h : k ≠ 4) (h0 : ¬ (k = 0 ∧ (j = 8 ∨ j = 10 ∨ j = 11))) : m_start1 M k j = M k j := by
  unfold m_start1
  rw [u2_ne (by omega), u2_ne (by omega), u2_ne (by omega)]
  show u2 (u2 (u2 M 4 0 0) 4 1 0) 4 2 0 k j = _
  rw [u2_ne (by omega), u2_ne (by omega), u2_ne (by omega)]
theorem start1_z {f : Nat} (hf : f < 3) : m_start1 M 4 f = 0 := by
  unfold m_start1
  rw [u2_ne (by omega), u2_ne (by omega), u2_ne (by omega)]
  show u2 (u2 (u2 M 4 0 0) 4 1 0) 4 2 0 4 f = _
  rcases (by omega : f = 0 ∨ f = 1 ∨ f = 2) with rfl | rfl | rfl
  · rw [u2_ne (by omega), u2_ne (by omega), u2_same]
  · rw [u2_ne (by omega), u2_same]
  · rw [u2_same]
theorem start1_8 : m_start1 M 0 8 = M 0 4 := by
  unfold m_start1
  rw [u2_same, u2_ne (by omega), u2_ne (by omega)]
  show u2 (u2 (u2 M 4 0 0) 4 1 0) 4 2 0 0 4 = _
  rw [u2_ne (by omega), u2_ne (by omega), u2_ne (by omega)]
theorem fi_rows {N : Mem} (h : FI B M) (he : ∀ i, i < 16 → ∀ f, f < 3 → N (6 + 2 * i) f = M (6 + 2 * i) f) : FI B N := by
  have e : ∀ i, i < 16 → ∀ f, f < 3 → Fl N i f = Fl M i f := fun i hi f hf => by unfold Fl; rw [he i hi f hf]
  refine ⟨fun i hi f hf => ?_, ?_⟩
  · rw [e i hi f hf]; exact h.1 i hi f hf
  · rw [tot_ext 16 e]; exact h.2
theorem start_int (h : WI B M) (g : GI nd M) : PI B (m_start nd M) ∧ ZI nd 0 0 (m_start nd M) := by
  have hc1 : CI (m_start1 M) := h.2.1.cg cg_start1
  have key : ∀ n, n ≤ nd → FI B (fo m_startS n (m_start1 M)) ∧ ((∀ f, f < 3 → fo m_startS n (m_start1 M) 4 f = 0) ∧ fo m_startS n (m_start1 M) 0 6 = M 0 6 ∧ fo m_startS n (m_start1 M) 0 5 = M 0 5) ∧ (0 ≤ (fo m_startS n (m_start1 M) 0 8).toInt ∧ (fo m_startS n (m_start1 M) 0 8).toInt ≤ 1000000 + 18 * n) ∧ CI (fo m_startS n (m_start1 M)) ∧ ∀ w, w < n → ∀ f, f < 3 → fo m_startS n (m_start1 M) (38 + 2 * w) f = 0 := by
    intro n
    induction n with
    | zero =>
      intro _
      refine ⟨fi_rows h.1 (fun i hi f hf => start1_k (by omega) (by omega)), ⟨fun f hf => start1_z hf, start1_k (by omega) (by omega), start1_k (by omega) (by omega)⟩, ?_, hc1, fun w hw => absurd hw (by omega)⟩
      show 0 ≤ (m_start1 M 0 8).toInt ∧ (m_start1 M 0 8).toInt ≤ _
      rw [start1_8]
      have := h.2.1.2.2.2.1
      omega
    | succ n ih =>
      intro hn
      obtain ⟨a1, a2, a3, a4, a5⟩ := ih (by omega)
      have h6 : n < 6 := by have := g.1; omega
      show FI B (m_startS n (fo m_startS n (m_start1 M))) ∧ ((∀ f, f < 3 → m_startS n (fo m_startS n (m_start1 M)) 4 f = 0) ∧ m_startS n (fo m_startS n (m_start1 M)) 0 6 = M 0 6 ∧ m_startS n (fo m_startS n (m_start1 M)) 0 5 = M 0 5) ∧ (0 ≤ (m_startS n (fo m_startS n (m_start1 M)) 0 8).toInt ∧ (m_startS n (fo m_startS n (m_start1 M)) 0 8).toInt ≤ 1000000 + 18 * (n + 1 : Nat)) ∧ CI (m_startS n (fo m_startS n (m_start1 M))) ∧ ∀ w, w < n + 1 → ∀ f, f < 3 → m_startS n (fo m_startS n (m_start1 M)) (38 + 2 * w) f = 0
      generalize fo m_startS n (m_start1 M) = N at a1 a2 a3 a4 a5
      refine ⟨fi_rows a1 (fun i hi f hf => startS_k (by omega) (by omega)), ⟨fun f hf => (startS_k (by omega) (by omega)).trans (a2.1 f hf), (startS_k (by omega) (by omega)).trans a2.2.1, (startS_k (by omega) (by omega)).trans a2.2.2⟩, ?_, a4.cg cg_startS, fun w hw f hf => ?_⟩
      · have hk := a4.2.1 n h6
        have e8 : m_forget n N 0 8 = N 0 8 := forget_k (by omega)
        have e2 : m_forget n N (37 + 2 * n) 2 = N (37 + 2 * n) 2 := forget_k (by omega)
        have e3 : (2 * N (37 + 2 * n) 2).toInt = 2 * (N (37 + 2 * n) 2).toInt := im (by rw [show (2 : Int32).toInt = 2 from by decide]) (by omega) (by omega)
        unfold m_startS
        split
        · rw [u2_same, e8, e2, ia (by omega) (by omega), e3]
          omega
        · rw [e8]
          omega
      · by_cases q : w = n
        · subst q
          unfold m_startS
          split
          · rw [u2_ne (by omega), forget_z hf]
          · rw [forget_z hf]
        · rw [startS_k (by omega) (by omega)]
          exact a5 w (by omega) f hf
  obtain ⟨a1, a2, a3, a4, a5⟩ := key nd (Nat.le_refl nd)
  have h6 := g.1
  unfold m_start
  refine ⟨⟨a1, ⟨fun f hf => ?_, ?_, ?_, ?_⟩, a4⟩, fun w hw _ f hf => a5 w hw f hf⟩
  · have := a4.2.2.1 f hf
    rw [a2.1 f hf, z32]
    omega
  · rw [a2.2.1, a2.2.2]
    exact h.2.2
  · rw [a2.1 2 (by omega), z32]
    omega
  · omega
/-- behind the ranks: the rest of the month leaves what came up and the tank -/
def EI (B : Int) (M : Mem) : Prop := FI B M ∧ CI M ∧ (0 ≤ (M 4 0).toInt ∧ (M 4 0).toInt ≤ 1000000) ∧ 0 ≤ (M 0 6).toInt ∧ (M 0 6).toInt ≤ (M 0 5).toInt
theorem PI.ei (h : PI B M) : EI B M := by
  have h1 := h.2.1.1 0 (by omega)
  have h2 := h.2.2.2.2.1 0 (by omega)
  exact ⟨h.1, h.2.2, by omega, h.2.1.2.1⟩
theorem EI.set (h : EI B M) {i f : Nat} {d : Int32} (hB : B ≤ 1000000) (hi : i < 16) (hf : f < 3) (h0 : 0 ≤ d.toInt) (h1 : d.toInt ≤ 18) : EI (B + 18) (u2 M (6 + 2 * i) f (M (6 + 2 * i) f + d)) := by
  have hl := h.1.le hi hf
  have e : (M (6 + 2 * i) f + d).toInt = Fl M i f + d.toInt := by
    unfold Fl at *
    exact ia (by omega) (by omega)
  refine ⟨(h.1.set hi hf (by rw [e]; omega)).up (by rw [e]; omega), h.2.1.cg (Cg.rf.u2 (by omega)), ?_, ?_⟩
  · rw [u2_ne (by omega)]; exact h.2.2.1
  · rw [u2_ne (by omega), u2_ne (by omega)]; exact h.2.2.2
theorem EI.ne (h : EI B M) {k j : Nat} {v : Int32} (hk : (38 ≤ k ∧ k % 2 = 0) ∨ (k = 0 ∧ 9 ≤ j)) : EI B (u2 M k j v) := by
  refine ⟨h.1.ne (by omega), h.2.1.cg (Cg.rf.u2 (by omega)), ?_, ?_⟩
  · rw [u2_ne (by omega)]; exact h.2.2.1
  · rw [u2_ne (by omega), u2_ne (by omega)]; exact h.2.2.2
theorem EI.putIn (h : EI B M) (hB : B ≤ 1000000) {w f : Nat} {d : Int32} (hc : cix M w < 16) (hf : f < 3) (h0 : 0 ≤ d.toInt) (h1 : d.toInt ≤ 18) : EI (B + 18) (m_putIn M w f d) := by
  unfold m_putIn
  exact (h.set hB hc hf h0 h1).ne (by omega)
theorem EI.up {B' : Int} (h : EI B M) (hb : B ≤ B') : EI B' M := ⟨h.1.up hb, h.2⟩
theorem two_int (c : CI M) {w : Nat} (hw : w < 6) : (2 * M (37 + 2 * w) 2).toInt = 2 * (M (37 + 2 * w) 2).toInt := by
  have := c.2.1 w hw
  exact im (by rw [show (2 : Int32).toInt = 2 from by decide]) (by omega) (by omega)
theorem gasS_int {q : Int32 × Mem} (h : EI B q.2) (hB : B ≤ 1000000) (g : GI nd q.2) {w : Nat} (hw : w < nd) (hq : 0 ≤ q.1.toInt) : EI (B + 18) (m_gasS w q).2 ∧ 0 ≤ (m_gasS w q).1.toInt := by
  have h6 : w < 6 := Nat.lt_of_lt_of_le hw g.1
  have hk := h.2.1.2.1 w h6
  have e := two_int h.2.1 h6
  have ej : (jmin q.1 (2 * q.2 (37 + 2 * w) 2)).toInt = min q.1.toInt (2 * (q.2 (37 + 2 * w) 2).toInt) := by rw [jmin_int, e]
  unfold m_gasS
  split
  · refine ⟨(h.putIn hB (g.cx h6) (by omega) (by rw [ej]; omega) (by rw [ej]; omega)).ne (by omega), ?_⟩
    have h3 := Int32.toInt_lt q.1
    show 0 ≤ (q.1 - jmin q.1 (2 * q.2 (37 + 2 * w) 2)).toInt
    rw [isb (by omega) (by omega), ej]
    omega
  · exact ⟨h.up (by omega), hq⟩
theorem waterS_int (h : EI B M) (hB : B ≤ 1000000) (g : GI nd M) {w : Nat} (hw : w < nd) : EI (B + 18) (m_waterS w M) := by
  have h6 : w < 6 := Nat.lt_of_lt_of_le hw g.1
  have hk := h.2.1.2.1 w h6
  have e := two_int h.2.1 h6
  unfold m_waterS
  split
  · split
    · exact h.up (by omega)
    · exact (h.putIn hB (g.cx h6) (by omega) (by rw [e]; omega) (by rw [e]; omega)).ne (by omega)
  · exact h.up (by omega)
theorem even_int (h : EI B M) (hB : B ≤ 1000000) {b : Int32} {c : Nat} (hc : c < 16) : EI B (m_even b c M) := by
  have keep : ∀ {i j : Nat} {t : Int32}, i < 16 → j < 16 → j ≠ i → 0 ≤ t.toInt → EI B (m_moveOut M i t (6 + 2 * j)) := by
    intro i j t hi hj hne ht
    refine ⟨h.1.moveOut hB hi ht (Or.inl ⟨j, hj, hne, rfl⟩), h.2.1.cg (cg_moveOut (by omega)), ?_, ?_⟩
    · rw [moveOut_k (by omega) (by omega)]; exact h.2.2.1
    · rw [moveOut_k (by omega) (by omega), moveOut_k (by omega) (by omega)]; exact h.2.2.2
  unfold m_even
  split
  · exact h
  · rename_i hn
    have hd := (nb_ok hc hn).1
    have hne : nbd c b ≠ c := by unfold nbd; split <;> omega
    have p1 := pressure_int h.1 hB h.2.1 hc
    have p2 := pressure_int h.1 hB h.2.1 hd
    have e : (m_pressure M c - m_pressure M (nbd c b)).toInt = (m_pressure M c).toInt - (m_pressure M (nbd c b)).toInt := isb (by omega) (by omega)
    have z : (20 : Int32).toInt = 20 := by decide
    split
    · split
      · rename_i hle
        have hle := Int32.le_iff_toInt_le.mp hle
        rw [e, z32] at hle
        refine keep hd hc (by omega) ?_
        have en : (-(m_pressure M c - m_pressure M (nbd c b))).toInt = -((m_pressure M c).toInt - (m_pressure M (nbd c b)).toInt) := by
          rw [Int32.toInt_neg, e, Int.bmod_eq_of_le (by omega) (by omega)]
        rw [idv (by omega) (by omega), en, z]
        exact Int.ediv_nonneg (by omega) (by omega)
      · rename_i hle
        have hle : ¬ (m_pressure M c - m_pressure M (nbd c b)).toInt ≤ (0 : Int32).toInt := fun q => hle (Int32.le_iff_toInt_le.mpr q)
        rw [e, z32] at hle
        refine keep hc hd (by omega) ?_
        rw [idv (by omega) (by omega), e, z]
        exact Int.ediv_nonneg (by omega) (by omega)
    · exact h
/-- a month: bounds go on, and 0 or more comes up -/
theorem month_int (h : WI B M) (hB : B + 216 ≤ 1000000) (g : GI nd M) : WI (B + 216) (m_month nd M) ∧ 0 ≤ (m_month nd M 4 0).toInt ∧ (m_month nd M 4 0).toInt ≤ 1000000 := by
  have h1 := start_int h g
  have g1 : GI nd (m_start nd M) := g.cg cg_start
  have h2 : EI B (fo (m_rank nd) 9 (m_start nd M)) := (ranks_int h1.1 (by omega) g1 h1.2).ei
  have h2u := (ranks_int h1.1 (by omega) g1 h1.2).2.1.1 2 (by omega)
  have g2 : GI nd (fo (m_rank nd) 9 (m_start nd M)) := g1.cg cg_ranks
  have h6 := g.1
  unfold m_month
  generalize fo (m_rank nd) 9 (m_start nd M) = A at h2 h2u g2 ⊢
  have k3 : ∀ n, n ≤ nd → EI (B + 18 * n) (fo m_gasS n (A 4 2, A)).2 ∧ 0 ≤ (fo m_gasS n (A 4 2, A)).1.toInt := by
    intro n
    induction n with
    | zero => intro _; exact ⟨h2.up (by omega), h2u.1⟩
    | succ n ih =>
      intro hn
      have hi := ih (by omega)
      have := gasS_int hi.1 (by omega) (g2.cg cg_gas1) (w := n) (by omega) hi.2
      exact ⟨this.1.up (by omega), this.2⟩
  have h3 : EI (B + 18 * nd) (m_gas nd A) := by
    unfold m_gas
    exact (k3 nd (Nat.le_refl nd)).1.ne (by omega)
  have g3 : GI nd (m_gas nd A) := g2.cg cg_gas
  generalize m_gas nd A = C at h3 g3 ⊢
  have k4 : ∀ n, n ≤ nd → EI (B + 18 * nd + 18 * n) (fo m_waterS n C) := by
    intro n
    induction n with
    | zero => intro _; exact h3.up (by omega)
    | succ n ih =>
      intro hn
      exact (waterS_int (ih (by omega)) (by omega) (g3.cg cg_water1) (w := n) (by omega)).up (by omega)
  have h4 : EI (B + 216) (m_water nd C) := (k4 nd (Nat.le_refl nd)).up (by omega)
  generalize m_water nd C = E at h4 ⊢
  have k5 : ∀ n, n ≤ 16 → EI (B + 216) (fo m_evens n E) := by
    intro n
    induction n with
    | zero => intro _; exact h4
    | succ n ih =>
      intro hn
      exact even_int (even_int (ih (by omega)) hB (by omega)) hB (by omega)
  have h5 := k5 16 (Nat.le_refl 16)
  exact ⟨⟨h5.1, h5.2.1, h5.2.2.2⟩, h5.2.2.1⟩
/-- months: bounds go on, and 0 or more comes up -/
theorem months_int (h : WI B M) (g : GI nd M) : ∀ k : Nat, k ≤ 40 → B + 216 * k ≤ 1000000 → WI (B + 216 * k) (m_months nd k M).2 ∧ 0 ≤ (m_months nd k M).1.toInt ∧ (m_months nd k M).1.toInt ≤ 1000000 * k := by
  intro k
  induction k with
  | zero =>
    intro _ _
    rw [months_z]
    refine ⟨?_, ?_, ?_⟩
    · show WI (B + 216 * (0 : Nat)) M
      rw [show B + 216 * ((0 : Nat) : Int) = B from by omega]; exact h
    · show 0 ≤ (0 : Int32).toInt
      rw [z32]; omega
    · show (0 : Int32).toInt ≤ _
      rw [z32]; omega
  | succ k ih =>
    intro hk hB
    obtain ⟨a1, a2, a3⟩ := ih (by omega) (by omega)
    have hc : GI nd (m_months nd k M).2 := g.cg cg_months
    have hm := month_int a1 (by omega) hc
    rw [months_succ]
    generalize m_months nd k M = p at a1 a2 a3 hm ⊢
    generalize m_month nd p.2 = E at hm ⊢
    obtain ⟨hm1, hm2, hm3⟩ := hm
    generalize hE : E 4 0 = z at hm2 hm3 ⊢
    refine ⟨?_, ?_, ?_⟩
    · show WI (B + 216 * (k + 1 : Nat)) E
      rw [show B + 216 * ((k + 1 : Nat) : Int) = B + 216 * k + 216 from by omega]
      exact hm1
    · show 0 ≤ (p.1 + z).toInt
      rw [ia (by omega) (by omega)]
      omega
    · show (p.1 + z).toInt ≤ 1000000 * (k + 1 : Nat)
      rw [ia (by omega) (by omega)]
      omega
end
