/-! a new field, and what found keeps -/
section
variable {nd : Nat} {G P : Mem} {B : Int}
theorem G0_c {i j : Nat} (hi : i < 16) : G0 (5 + 2 * i) j = if j = 0 then 40 else 0 := by
  unfold G0
  rw [if_neg (by omega), if_neg (by omega), if_pos (by omega)]
theorem G0_w {i j : Nat} : G0 (37 + 2 * i) j = if j = 3 then 5 else 0 := by
  unfold G0
  rw [if_neg (by omega), if_neg (by omega), if_neg (by omega), if_pos (by omega)]
theorem G0_f {i j : Nat} : G0 (6 + 2 * i) j = 0 := by
  unfold G0
  rw [if_neg (by omega), if_neg (by omega), if_neg (by omega), if_neg (by omega)]
theorem gi_G0 : GI 0 G0 := by
  have e : ∀ w, G0 (37 + 2 * w) 1 = 0 := fun w => by rw [G0_w, if_neg (by omega)]
  refine ⟨by omega, rfl, fun w _ => ?_, fun i hi => ?_⟩
  · unfold cix
    rw [e w]
    exact ⟨by decide, by decide⟩
  · rw [G0_c hi, G0_c hi, G0_c hi, if_pos rfl, if_neg (by omega), if_neg (by omega)]
    exact ⟨by decide, Or.inl rfl, Or.inl rfl⟩
end
/-! an empty field of the class: nothing moves, nothing comes up -/
def EZ (M : Mem) : Prop := ∀ i, i < 16 → ∀ f, f < 3 → M (6 + 2 * i) f = 0
theorem ez_G0 : EZ G0 := fun i _ f _ => G0_f
theorem ez_all {M : Mem} (h : EZ M) {i : Nat} (hi : i < 16) : m_all M i = 0 := by
  unfold m_all
  rw [h i hi 0 (by omega), h i hi 1 (by omega), h i hi 2 (by omega)]
  rfl
theorem ez_u2 {M : Mem} (h : EZ M) {k j : Nat} {v : Int32} (hk : k < 6 ∨ 37 ≤ k ∨ k % 2 = 1) : EZ (u2 M k j v) := fun i hi f hf => (u2_ne (by omega)).trans (h i hi f hf)
theorem ez_move {M : Mem} (h : EZ M) {i : Nat} (hi : i < 16) {t : Int32} {k2 : Nat} : m_moveOut M i t k2 = M := by
  unfold m_moveOut
  rw [ez_all h hi, if_neg (by decide)]
theorem ez_even {M : Mem} (h : EZ M) {b : Int32} {c : Nat} (hc : c < 16) : m_even b c M = M := by
  unfold m_even
  by_cases h1 : m_nb c b = -1
  · rw [if_pos h1]
  · rw [if_neg h1, ez_move h hc, ez_move h (nb_ok hc h1).1]
    split <;> first | rfl | (split <;> rfl)
theorem ez_evens {M : Mem} (h : EZ M) : ∀ n, n ≤ 16 → fo m_evens n M = M
  | 0, _ => rfl
  | n + 1, hn => by
    show m_evens n (fo m_evens n M) = M
    rw [ez_evens h n (by omega)]
    unfold m_evens
    rw [ez_even h (by omega), ez_even h (by omega)]
theorem ez_start0 {M : Mem} (h : EZ M) : EZ (m_start0 M) := ez_u2 (ez_u2 (ez_u2 h (Or.inl (by omega))) (Or.inl (by omega))) (Or.inl (by omega))
theorem ez_start1 {M : Mem} (h : EZ M) : EZ (m_start1 M) := ez_u2 (ez_u2 (ez_u2 (ez_start0 h) (Or.inl (by omega))) (Or.inl (by omega))) (Or.inl (by omega))
theorem rank_0 (M : Mem) : ∀ n, fo (m_rank 0) n M = M
  | 0 => rfl
  | n + 1 => by
    rw [fo_s, rank_0 M n]
    unfold m_rank
    rfl
theorem water_0 (M : Mem) : m_water 0 M = M := rfl
theorem gas_0 (M : Mem) : m_gas 0 M = u2 M 0 9 (M 4 2) := rfl
theorem start_0 (M : Mem) : m_start 0 M = m_start1 M := rfl
theorem month_0 (M : Mem) : m_month 0 M = fo m_evens 16 (u2 (m_start1 M) 0 9 (m_start1 M 4 2)) := by
  unfold m_month
  rw [rank_0, water_0, gas_0, start_0]
theorem st0_40 (M : Mem) : m_start0 M 4 0 = 0 := by
  have e : m_start0 M = u2 (u2 (u2 M 4 0 0) 4 1 0) 4 2 0 := rfl
  rw [e, u2_ne (k := 4) (j := 2) (a := 4) (b := 0) (by omega), u2_ne (k := 4) (j := 1) (a := 4) (b := 0) (by omega), u2_same]
theorem st1_40 (M : Mem) : m_start1 M 4 0 = 0 := by
  unfold m_start1
  rw [u2_ne (k := 0) (j := 8) (a := 4) (b := 0) (by omega), u2_ne (k := 0) (j := 11) (a := 4) (b := 0) (by omega), u2_ne (k := 0) (j := 10) (a := 4) (b := 0) (by omega)]
  exact st0_40 M
theorem ez_m1 {M : Mem} (h : EZ M) : EZ (m_month 0 M) := by
  rw [month_0, ez_evens (ez_u2 (ez_start1 h) (Or.inl (by omega))) 16 (Nat.le_refl _)]
  exact ez_u2 (ez_start1 h) (Or.inl (by omega))
theorem ez_m2 {M : Mem} (h : EZ M) : m_month 0 M 4 0 = 0 := by
  rw [month_0, ez_evens (ez_u2 (ez_start1 h) (Or.inl (by omega))) 16 (Nat.le_refl _), u2_ne (k := 0) (j := 9) (a := 4) (b := 0) (by omega)]
  exact st1_40 M
theorem ez_month {M : Mem} (h : EZ M) : EZ (m_month 0 M) ∧ m_month 0 M 4 0 = 0 := ⟨ez_m1 h, ez_m2 h⟩
theorem ez_mstep {q : Int32 × Mem} (h1 : q.1 = 0) (h2 : EZ q.2) : q.1 + m_month 0 q.2 4 0 = 0 := by
  rw [ez_m2 h2, h1]
  decide
theorem ez_months {M : Mem} (h : EZ M) (k : Nat) : (m_months 0 k M).1 = 0 ∧ EZ (m_months 0 k M).2 := by
  induction k with
  | zero => exact ⟨by unfold m_months; rfl, h⟩
  | succ k ih =>
    rw [months_succ]
    dsimp only
    exact ⟨ez_mstep ih.1 ih.2, ez_m1 ih.2⟩
theorem ez_take {N T : Mem} (h : EZ N) : EZ (m_take N T) := fun i hi f hf => ((co_take.1 i hi).2 f hf).trans (h i hi f hf)
theorem would_0 {k : Nat} {T : Mem} : (m_would 0 k G0 T).1 = 0 := (ez_months (ez_take ez_G0) k).1
theorem res_0 {T : Mem} : (m_res 0 0 G0 T).1 = 0 := (ez_months (ez_u2 (ez_take ez_G0) (Or.inl (by omega))) 12).1
theorem shut_0 {ce : Nat} (hc : ce < 16) {b : Int32} : m_isShut G0 ce b = 0 := by
  unfold m_isShut
  rw [G0_c hc, G0_c hc]
  split <;> rfl
theorem kept_0 {ce : Nat} (hc : ce < 16) {b : Int32} {k : Nat} {T : Mem} : (m_kept 0 ce b k G0 T).1 = 0 := by
  unfold m_kept
  rw [if_pos (shut_0 hc)]
theorem pass_0 {P : Mem} (k : Nat) : (m_pass 0 G0 P k).1.1 = 0 ∧ EZ (m_pass 0 G0 P k).1.2 := by
  induction k with
  | zero => exact ⟨by unfold m_pass; rfl, ez_G0⟩
  | succ k ih =>
    rw [pass_succ]
    dsimp only
    exact ⟨ez_mstep (q := (m_pass 0 G0 P k).1) ih.1 ih.2, ez_m1 ih.2⟩
