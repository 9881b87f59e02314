/-! two memories that are alike where a month looks bring up the same -/
section
def EqOn (S : Nat → Nat → Prop) (M N : Mem) : Prop := ∀ k j, S k j → M k j = N k j
variable {S : Nat → Nat → Prop} {M N : Mem}
theorem eo_u2 (h : EqOn S M N) {k j : Nat} {v v' : Int32} (e : v = v') : EqOn S (u2 M k j v) (u2 N k j v') := by
  intro a b q
  subst e
  unfold u2
  split
  · rfl
  · exact h a b q
theorem eo_fo {α : Type} {R : α → α → Prop} {f g : Nat → α → α} (hs : ∀ i x y, R x y → R (f i x) (g i y)) : ∀ (n : Nat) {x y : α}, R x y → R (fo f n x) (fo g n y)
  | 0, _, _, h => h
  | n + 1, _, _, h => hs n _ _ (eo_fo hs n h)
theorem eo_foB {α : Type} {R : α → α → Prop} {f g : Nat → α → α} : ∀ (n : Nat), (∀ i x y, i < n → R x y → R (f i x) (g i y)) → ∀ {x y : α}, R x y → R (fo f n x) (fo g n y)
  | 0, _, _, _, h => h
  | n + 1, hs, _, _, h => hs n _ _ (Nat.lt_succ_self n) (eo_foB n (fun i x y hi => hs i x y (Nat.lt_succ_of_lt hi)) h)
/-- the cells and wells as they are told, the fluids, the capacities, permit, tank -/
def SC (k j : Nat) : Prop := (k = 0 ∧ (j = 2 ∨ j = 4 ∨ j = 5 ∨ j = 6)) ∨ (k = 3 ∧ j < 3) ∨ (5 ≤ k ∧ k < 37 ∧ k % 2 = 1 ∧ (j = 0 ∨ j = 2 ∨ j = 3)) ∨ (6 ≤ k ∧ k < 38 ∧ k % 2 = 0 ∧ j < 3) ∨ (37 ≤ k ∧ k < 49 ∧ k % 2 = 1 ∧ j < 4)
/-- besides: what the month has done so far -/
def SM (nd k j : Nat) : Prop := SC k j ∨ (k = 4 ∧ j < 3) ∨ (k = 0 ∧ (j = 8 ∨ j = 10 ∨ j = 11)) ∨ (38 ≤ k ∧ k < 38 + 2 * nd ∧ k % 2 = 0 ∧ j < 3)
theorem Co.eqOn (h : Co N M) : EqOn SC M N := by
  intro k j q
  obtain ⟨h1, h2, h3, h4, h5, h6, h7⟩ := h
  rcases q with ⟨rfl, rfl | rfl | rfl | rfl⟩ | ⟨rfl, q⟩ | ⟨q1, q2, q3, rfl | rfl | rfl⟩ | ⟨q1, q2, q3, q4⟩ | ⟨q1, q2, q3, q4⟩
  · exact h4
  · exact h5
  · exact h6
  · exact h7
  · exact h3 j q
  · obtain ⟨i, rfl⟩ : ∃ i, k = 5 + 2 * i := ⟨(k - 5) / 2, by omega⟩
    exact (h1 i (by omega)).1.1
  · obtain ⟨i, rfl⟩ : ∃ i, k = 5 + 2 * i := ⟨(k - 5) / 2, by omega⟩
    exact (h1 i (by omega)).1.2.1
  · obtain ⟨i, rfl⟩ : ∃ i, k = 5 + 2 * i := ⟨(k - 5) / 2, by omega⟩
    exact (h1 i (by omega)).1.2.2
  · obtain ⟨i, rfl⟩ : ∃ i, k = 6 + 2 * i := ⟨(k - 6) / 2, by omega⟩
    exact (h1 i (by omega)).2 j q4
  · obtain ⟨i, rfl⟩ : ∃ i, k = 37 + 2 * i := ⟨(k - 37) / 2, by omega⟩
    exact h2 i (by omega) j q4
theorem sc_fl {nd i f : Nat} (hi : i < 16) (hf : f < 3) : SM nd (6 + 2 * i) f := Or.inl (Or.inr (Or.inr (Or.inr (Or.inl ⟨by omega, by omega, by omega, hf⟩))))
theorem sc_ce {nd i j : Nat} (hi : i < 16) (hj : j = 0 ∨ j = 2 ∨ j = 3) : SM nd (5 + 2 * i) j := Or.inl (Or.inr (Or.inr (Or.inl ⟨by omega, by omega, by omega, hj⟩)))
theorem sc_we {nd i j : Nat} (hi : i < 6) (hj : j < 4) : SM nd (37 + 2 * i) j := Or.inl (Or.inr (Or.inr (Or.inr (Or.inr ⟨by omega, by omega, by omega, hj⟩))))
theorem sc_ca {nd f : Nat} (hf : f < 3) : SM nd 3 f := Or.inl (Or.inr (Or.inl ⟨rfl, hf⟩))
theorem sc_up {nd f : Nat} (hf : f < 3) : SM nd 4 f := Or.inr (Or.inl ⟨rfl, hf⟩)
theorem sc_ga {nd w f : Nat} (hw : w < nd) (hf : f < 3) : SM nd (38 + 2 * w) f := Or.inr (Or.inr (Or.inr ⟨by omega, by omega, by omega, hf⟩))
variable {nd : Nat}
theorem sim_all (h : EqOn (SM nd) M N) {i : Nat} (hi : i < 16) : m_all M i = m_all N i := by
  unfold m_all
  rw [h _ _ (sc_fl hi (f := 0) (by omega)), h _ _ (sc_fl hi (f := 1) (by omega)), h _ _ (sc_fl hi (f := 2) (by omega))]
theorem sim_pressure (h : EqOn (SM nd) M N) {i : Nat} (hi : i < 16) : m_pressure M i = m_pressure N i := by
  unfold m_pressure
  rw [sim_all h hi, h _ _ (sc_ce hi (Or.inl rfl))]
theorem sim_flow (h : EqOn (SM nd) M N) {i f : Nat} (hi : i < 16) (hf : f < 3) : m_flow M i f = m_flow N i f := by
  unfold m_flow
  rw [h _ _ (sc_fl hi hf)]
theorem sim_most (h : EqOn (SM nd) M N) {i f : Nat} (hi : i < 16) (hf : f < 3) {x y : Int32} (e : x = y) : m_mostTimes M i f x = m_mostTimes N i f y := by
  subst e
  unfold m_mostTimes
  rw [sim_all h hi, sim_flow h hi hf, h _ _ (sc_fl hi hf)]
theorem sim_isShut (h : EqOn (SM nd) M N) {i : Nat} (hi : i < 16) {b : Int32} : m_isShut M i b = m_isShut N i b := by
  unfold m_isShut
  rw [h _ _ (sc_ce hi (Or.inr (Or.inl rfl))), h _ _ (sc_ce hi (Or.inr (Or.inr rfl)))]
theorem sim_mv (h : EqOn (SM nd) M N) {i f : Nat} (hi : i < 16) (hf : f < 3) {t al : Int32} : m_mv M i f t al = m_mv N i f t al := by
  unfold m_mv
  rw [sim_flow h hi hf, h _ _ (sc_fl hi hf)]
theorem sim_moveOut (h : EqOn (SM nd) M N) {i : Nat} (hi : i < 16) {t t' : Int32} (e : t = t') {k2 : Nat} (hk : ∀ f, f < 3 → SM nd k2 f) : EqOn (SM nd) (m_moveOut M i t k2) (m_moveOut N i t' k2) := by
  subst e
  unfold m_moveOut
  rw [sim_all h hi]
  split
  · refine eo_foB (R := EqOn (SM nd)) 3 (fun f x y hf hxy => ?_) h
    unfold m_mvs
    have e1 : x (6 + 2 * i) f - m_mv x i f t (m_all N i) = y (6 + 2 * i) f - m_mv y i f t (m_all N i) := by rw [sim_mv hxy hi hf, hxy _ _ (sc_fl hi hf)]
    have h1 := eo_u2 hxy (k := 6 + 2 * i) (j := f) e1
    refine eo_u2 h1 ?_
    rw [h1 _ _ (hk f hf), sim_mv hxy hi hf]
  · exact h
theorem sim_may (h : EqOn (SM nd) M N) {f : Nat} (hf : f < 3) : m_may M f = m_may N f := by
  unfold m_may
  rw [h _ _ (sc_ca hf), h _ _ (sc_up hf), h 0 5 (by unfold SM SC; omega), h 0 6 (by unfold SM SC; omega), h 0 8 (by unfold SM SC; omega), h _ _ (sc_up (f := 2) (by omega))]
theorem sim_cix (h : EqOn (SM nd) M N) {w : Nat} (hw : w < 6) : cix M w = cix N w := by
  unfold cix
  rw [h _ _ (sc_we hw (by omega))]
theorem sim_produce (h : EqOn (SM nd) M N) (g : GI nd N) {w : Nat} (hw : w < nd) : EqOn (SM nd) (m_produce w M) (m_produce w N) := by
  have h6 : w < 6 := Nat.lt_of_lt_of_le hw g.1
  have hc := sim_cix h h6
  have hcl := g.cx h6
  have ht : m_times M w = m_times N w := by
    unfold m_times
    refine eo_foB (R := Eq) 3 (fun f x y hf e => ?_) ?_
    · subst e
      unfold m_timesS
      rw [hc, sim_most h hcl hf (sim_may h hf)]
    · unfold m_times0
      rw [hc, h _ _ (sc_we h6 (by omega)), sim_pressure h hcl]
  have h1 : EqOn (SM nd) (m_produce1 M w) (m_produce1 N w) := by
    unfold m_produce1
    rw [hc]
    refine eo_foB (R := EqOn (SM nd)) 3 (fun f x y hf e => ?_) (sim_moveOut h hcl ht (fun f hf => sc_ga hw hf))
    unfold m_upS
    exact eo_u2 e (by rw [e _ _ (sc_up hf), e _ _ (sc_ga hw hf)])
  unfold m_produce
  exact eo_u2 h1 (by rw [h1 0 6 (by unfold SM SC; omega), h1 _ _ (sc_ga hw (f := 0) (by omega))])
theorem sim_putIn (h : EqOn (SM nd) M N) (g : GI nd N) {w f : Nat} (hw : w < nd) (hf : f < 3) {x y : Int32} (e : x = y) : EqOn (SM nd) (m_putIn M w f x) (m_putIn N w f y) := by
  have h6 : w < 6 := Nat.lt_of_lt_of_le hw g.1
  unfold m_putIn
  rw [sim_cix h h6]
  exact eo_u2 (eo_u2 h (by rw [h _ _ (sc_fl (g.cx h6) hf), e])) e
/-- with the other side's invariant along -/
def Sg (nd : Nat) (M N : Mem) : Prop := EqOn (SM nd) M N ∧ GI nd N
theorem sg_rank (r w : Nat) (hw : w < nd) {M N : Mem} (h : Sg nd M N) : Sg nd (m_rankS r w M) (m_rankS r w N) := by
  have h6 : w < 6 := Nat.lt_of_lt_of_le hw h.2.1
  refine ⟨?_, h.2.cg cg_rankS⟩
  unfold m_rankS
  rw [h.1 _ _ (sc_we h6 (j := 0) (by omega)), h.1 _ _ (sc_we h6 (j := 3) (by omega))]
  split
  · split
    · exact sim_produce h.1 h.2 hw
    · exact h.1
  · exact h.1
theorem sg_gasS (w : Nat) (hw : w < nd) {p q : Int32 × Mem} (h : p.1 = q.1 ∧ Sg nd p.2 q.2) : (m_gasS w p).1 = (m_gasS w q).1 ∧ Sg nd (m_gasS w p).2 (m_gasS w q).2 := by
  have h6 : w < 6 := Nat.lt_of_lt_of_le hw h.2.2.1
  have e0 := h.2.1 _ _ (sc_we h6 (j := 0) (by omega))
  have e2 := h.2.1 _ _ (sc_we h6 (j := 2) (by omega))
  refine ⟨?_, ?_, h.2.2.cg cg_gasS⟩
  · unfold m_gasS
    rw [e0, e2, h.1]
    split
    · rfl
    · exact h.1
  · unfold m_gasS
    rw [e0, e2, h.1]
    split
    · have h1 := sim_putIn h.2.1 h.2.2 hw (f := 2) (by omega) (x := jmin q.1 (2 * q.2 (37 + 2 * w) 2)) rfl
      exact eo_u2 h1 (by rw [h1 0 10 (by unfold SM SC; omega)])
    · exact h.2.1
theorem sg_waterS (w : Nat) (hw : w < nd) {M N : Mem} (h : Sg nd M N) : Sg nd (m_waterS w M) (m_waterS w N) := by
  have h6 : w < 6 := Nat.lt_of_lt_of_le hw h.2.1
  refine ⟨?_, h.2.cg cg_waterS⟩
  unfold m_waterS
  rw [h.1 _ _ (sc_we h6 (j := 0) (by omega)), h.1 _ _ (sc_we h6 (j := 2) (by omega)), sim_cix h.1 h6, sim_pressure h.1 (h.2.cx h6)]
  split
  · split
    · exact h.1
    · have h1 := sim_putIn h.1 h.2 hw (f := 1) (by omega) (x := 2 * N (37 + 2 * w) 2) rfl
      exact eo_u2 h1 (by rw [h1 0 11 (by unfold SM SC; omega)])
  · exact h.1
theorem sg_even (b : Int32) (c : Nat) (hc : c < 16) {M N : Mem} (h : Sg nd M N) : Sg nd (m_even b c M) (m_even b c N) := by
  refine ⟨?_, h.2.cg cg_even⟩
  unfold m_even
  by_cases hn : m_nb c b = -1
  · rw [if_pos hn, if_pos hn]
    exact h.1
  · have hd := (nb_ok hc hn).1
    rw [if_neg hn, if_neg hn, sim_isShut h.1 hc, sim_pressure h.1 hc, sim_pressure h.1 hd]
    split
    · split
      · exact sim_moveOut h.1 hd rfl (fun f hf => sc_fl hc hf)
      · exact sim_moveOut h.1 hc rfl (fun f hf => sc_fl hd hf)
    · exact h.1
theorem sg_start (h : EqOn SC M N) (g : GI nd N) : Sg nd (m_start nd M) (m_start nd N) := by
  refine ⟨?_, g.cg cg_start⟩
  have hz : ∀ (A : Mem) f, f < 3 → m_start0 A 4 f = 0 := by
    intro A f hf
    unfold m_start0
    rcases (by omega : f = 0 ∨ f = 1 ∨ f = 2) with rfl | rfl | rfl <;> simp [fo, u2]
  have h0 : EqOn SC (m_start0 M) (m_start0 N) := by
    exact eo_fo (R := EqOn SC) (f := fun f M => u2 M 4 f 0) (g := fun f M => u2 M 4 f 0) (fun f x y e => eo_u2 e rfl) 3 h
  -- behind the head: all but what wells gave
  have h1 : EqOn (SM 0) (m_start1 M) (m_start1 N) := by
    intro k j q
    unfold m_start1
    have e4 : u2 (u2 (m_start0 M) 0 10 0) 0 11 0 0 4 = u2 (u2 (m_start0 N) 0 10 0) 0 11 0 0 4 := by
      rw [u2_ne (by omega), u2_ne (by omega), u2_ne (by omega), u2_ne (by omega)]
      exact h0 0 4 (by unfold SC; omega)
    rw [e4]
    unfold u2
    split
    · rfl
    · split
      · rfl
      · split
        · rfl
        · rcases q with q | ⟨rfl, q⟩ | ⟨rfl, q⟩ | ⟨q1, q2, -⟩
          · exact h0 k j q
          · rw [hz M j q, hz N j q]
          · omega
          · omega
  have key : ∀ n, n ≤ nd → EqOn (SM n) (fo m_startS n (m_start1 M)) (fo m_startS n (m_start1 N)) := by
    intro n
    induction n with
    | zero => intro _; exact h1
    | succ n ih =>
      intro hn
      have hi := ih (by omega)
      have h6 : n < 6 := by have := g.1; omega
      show EqOn (SM (n + 1)) (m_startS n (fo m_startS n (m_start1 M))) (m_startS n (fo m_startS n (m_start1 N)))
      generalize fo m_startS n (m_start1 M) = A at hi ⊢
      generalize fo m_startS n (m_start1 N) = C at hi ⊢
      have hf : EqOn (SM (n + 1)) (m_forget n A) (m_forget n C) := by
        intro k j q
        unfold m_forget
        by_cases hk : k = 38 + 2 * n ∧ j < 3
        · obtain ⟨rfl, hj⟩ := hk
          rcases (by omega : j = 0 ∨ j = 1 ∨ j = 2) with rfl | rfl | rfl <;> simp [fo, u2]
        · have hne : ∀ f, f < 3 → ¬ (k = 38 + 2 * n ∧ j = f) := fun f hf q => hk ⟨q.1, by omega⟩
          show u2 (u2 (u2 A (38 + 2 * n) 0 0) (38 + 2 * n) 1 0) (38 + 2 * n) 2 0 k j = u2 (u2 (u2 C (38 + 2 * n) 0 0) (38 + 2 * n) 1 0) (38 + 2 * n) 2 0 k j
          rw [u2_ne (hne 2 (by omega)), u2_ne (hne 1 (by omega)), u2_ne (hne 0 (by omega)), u2_ne (hne 2 (by omega)), u2_ne (hne 1 (by omega)), u2_ne (hne 0 (by omega))]
          refine hi k j ?_
          have hk3 : ¬ (k = 38 + 2 * n ∧ j < 3) := hk
          unfold SM at q ⊢
          rcases q with q | q | q | q
          · exact Or.inl q
          · exact Or.inr (Or.inl q)
          · exact Or.inr (Or.inr (Or.inl q))
          · exact Or.inr (Or.inr (Or.inr ⟨q.1, by omega, q.2.2.1, q.2.2.2⟩))
      unfold m_startS
      rw [hf _ _ (sc_we h6 (j := 0) (by omega))]
      split
      · exact eo_u2 hf (by rw [hf 0 8 (by unfold SM SC; omega), hf _ _ (sc_we h6 (j := 2) (by omega))])
      · exact hf
  exact key nd (Nat.le_refl nd)
theorem sg_gas (h : Sg nd M N) : Sg nd (m_gas nd M) (m_gas nd N) := by
  have hp : (fo m_gasS nd (M 4 2, M)).1 = (fo m_gasS nd (N 4 2, N)).1 ∧ Sg nd (fo m_gasS nd (M 4 2, M)).2 (fo m_gasS nd (N 4 2, N)).2 := eo_foB (R := fun p q => p.1 = q.1 ∧ Sg nd p.2 q.2) (f := m_gasS) (g := m_gasS) nd (fun w p q hw e => sg_gasS w hw e) ⟨h.1 _ _ (sc_up (by omega)), h⟩
  refine ⟨?_, h.2.cg cg_gas⟩
  unfold m_gas
  exact eo_u2 hp.2.1 hp.1
/-- the month itself -/
theorem sim_month (h : EqOn SC M N) (g : GI nd N) : EqOn (SM nd) (m_month nd M) (m_month nd N) := by
  have h1 := sg_start h g
  have h2 : Sg nd (fo (m_rank nd) 9 (m_start nd M)) (fo (m_rank nd) 9 (m_start nd N)) := eo_fo (R := Sg nd) (fun r x y e => eo_foB (R := Sg nd) nd (fun w a b hw q => sg_rank r w hw q) e) 9 h1
  unfold m_month
  generalize fo (m_rank nd) 9 (m_start nd M) = A at h2 ⊢
  generalize fo (m_rank nd) 9 (m_start nd N) = C at h2 ⊢
  have h4 : Sg nd (m_water nd (m_gas nd A)) (m_water nd (m_gas nd C)) := eo_foB (R := Sg nd) nd (fun w a b hw q => sg_waterS w hw q) (sg_gas h2)
  have h5 : Sg nd (fo m_evens 16 (m_water nd (m_gas nd A))) (fo m_evens 16 (m_water nd (m_gas nd C))) := eo_foB (R := Sg nd) 16 (fun c a b hc q => sg_even 0 c hc (sg_even 1 c hc q)) h4
  exact h5.1
theorem SM.sc (h : EqOn (SM nd) M N) : EqOn SC M N := fun k j q => h k j (Or.inl q)
/-- months from like starts: as much OIL, and like ends -/
theorem months_z {nd : Nat} {M : Mem} : m_months nd 0 M = (0, M) := by simp only [m_months, fo]
theorem sim_months (h : EqOn SC M N) (g : GI nd N) (k : Nat) : (m_months nd k M).1 = (m_months nd k N).1 ∧ EqOn SC (m_months nd k M).2 (m_months nd k N).2 := by
  induction k with
  | zero =>
    rw [months_z, months_z]
    exact ⟨rfl, h⟩
  | succ k hi =>
    rw [months_succ, months_succ]
    have hc : GI nd (m_months nd k N).2 := g.cg cg_months
    generalize m_months nd k M = p at hi ⊢
    generalize m_months nd k N = q at hi hc ⊢
    obtain ⟨e, hi⟩ := hi
    have hm := sim_month hi hc
    have hs := SM.sc hm
    have h4 : m_month nd p.2 4 0 = m_month nd q.2 4 0 := hm 4 0 (Or.inr (Or.inl ⟨rfl, by omega⟩))
    generalize m_month nd p.2 = A at hs h4 ⊢
    generalize m_month nd q.2 = B at hs h4 ⊢
    exact ⟨by rw [e, h4], hs⟩
/-- pass: what the ground does is its months -/
theorem pass_months {G P : Mem} : ∀ k, (m_pass nd G P k).1 = m_months nd k G
  | 0 => rfl
  | k + 1 => by
    have hi := pass_months (G := G) (P := P) k
    rw [pass_succ, months_succ, hi]
theorem EqOn.sy (h : EqOn S M N) : EqOn S N M := fun k j q => (h k j q).symm
theorem EqOn.tr {L : Mem} (h : EqOn S M N) (h' : EqOn S N L) : EqOn S M L := fun k j q => (h k j q).trans (h' k j q)
/-- what was taken over, whatever lay in the trial -/
theorem take_eq {T : Mem} : EqOn SC (m_take N T) N := Co.eqOn co_take
theorem would_eq {k : Nat} {G T : Mem} (g : GI nd G) : (m_would nd k G T).1 = (m_months nd k G).1 := (sim_months take_eq g k).1
theorem would_pass {k : Nat} {G T P : Mem} (g : GI nd G) : (m_would nd k G T).1 = (m_pass nd G P k).1.1 := by rw [would_eq g, pass_months]
theorem res_eq {k : Nat} {G T T' : Mem} (g : GI nd G) : (m_res nd k G T).1 = (m_res nd k G T').1 := by
  have h0 : EqOn SC (m_res0 G T) (m_res0 G T') := by
    unfold m_res0
    exact eo_u2 (take_eq.tr take_eq.sy) rfl
  have h1 : EqOn SC (m_resL k (nd - k) (m_res0 G T)) (m_resL k (nd - k) (m_res0 G T')) := by
    unfold m_resL
    exact eo_fo (R := EqOn SC) (f := fun i T => u2 T (37 + 2 * (k + i)) 2 0) (g := fun i T => u2 T (37 + 2 * (k + i)) 2 0) (fun i x y e => eo_u2 e rfl) _ h0
  exact (sim_months h1 (gi_resL (gi_res0 g) _) 12).1
theorem bT_eq {w k ch : Nat} {G T T' : Mem} (g : GI nd G) : (m_bT nd w k ch G T).1 = (m_bT nd w k ch G T').1 := by
  unfold m_bT
  exact (sim_months (eo_u2 (take_eq.tr take_eq.sy) rfl) (g.take.u (by omega)) k).1
theorem best_eq {w k : Nat} {G T T' : Mem} (g : GI nd G) : ∀ i, (m_best nd w k G T i).1 = (m_best nd w k G T' i).1
  | 0 => rfl
  | i + 1 => by
    have hi := best_eq (w := w) (k := k) (T := T) (T' := T') g i
    show (m_bS nd w k G i (m_best nd w k G T i)).1 = (m_bS nd w k G i (m_best nd w k G T' i)).1
    unfold m_bS
    rw [hi, bT_eq (T' := (m_best nd w k G T' i).2) g]
    split
    · rfl
    · rfl
end
