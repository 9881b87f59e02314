/-! a new field, and what found keeps -/
section
variable {nd : Nat} {G P : Mem} {B : Int}
theorem G0_c {i j : Nat} (hi : i < 16) : G0 (5 + 2 * i) j = if j = 0 then 40 else 0 := by
  unfold G0
  rw [if_neg (by omega), if_neg (by omega), if_pos (by omega)]
theorem G0_w {i j : Nat} : G0 (37 + 2 * i) j = if j = 3 then 5 else 0 := by
  unfold G0
  rw [if_neg (by omega), if_neg (by omega), if_neg (by omega), if_pos (by omega)]
theorem G0_f {i j : Nat} : G0 (6 + 2 * i) j = 0 := by
  unfold G0
  rw [if_neg (by omega), if_neg (by omega), if_neg (by omega), if_neg (by omega)]
theorem gi_G0 : GI 0 G0 := by
  have e : ∀ w, G0 (37 + 2 * w) 1 = 0 := fun w => by rw [G0_w, if_neg (by omega)]
  refine ⟨by omega, rfl, fun w _ => ?_, fun i hi => ?_⟩
  · unfold cix
    rw [e w]
    exact ⟨by decide, by decide⟩
  · rw [G0_c hi, G0_c hi, G0_c hi, if_pos rfl, if_neg (by omega), if_neg (by omega)]
    exact ⟨by decide, Or.inl rfl, Or.inl rfl⟩
end
/-! an empty field of the class: nothing moves, nothing comes up -/
def EZ (M : Mem) : Prop := ∀ i, i < 16 → ∀ f, f < 3 → M (6 + 2 * i) f = 0
theorem ez_G0 : EZ G0 := fun i _ f _ => G0_f
theorem ez_all {M : Mem} (h : EZ M) {i : Nat} (hi : i < 16) : m_all M i = 0 := by
  unfold m_all
  rw [h i hi 0 (by omega), h i hi 1 (by omega), h i hi 2 (by omega)]
  rfl
theorem ez_u2 {M : Mem} (h : EZ M) {k j : Nat} {v : Int32} (hk : k < 6 ∨ 37 ≤ k ∨ k % 2 = 1) : EZ (u2 M k j v) := fun i hi f hf => (u2_ne (by omega)).trans (h i hi f hf)
theorem ez_move {M : Mem} (h : EZ M) {i : Nat} (hi : i < 16) {t : Int32} {k2 : Nat} : m_moveOut M i t k2 = M := by
  unfold m_moveOut
  rw [ez_all h hi, if_neg (by decide)]
theorem ez_even {M : Mem} (h : EZ M) {b : Int32} {c : Nat} (hc : c < 16) : m_even b c M = M := by
  unfold m_even
  by_cases h1 : m_nb c b = -1
  · rw [if_pos h1]
  · rw [if_neg h1, ez_move h hc, ez_move h (nb_ok hc h1).1]
    split <;> first | rfl | (split <;> rfl)
theorem ez_evens {M : Mem} (h : EZ M) : ∀ n, n ≤ 16 → fo m_evens n M = M
  | 0, _ => rfl
  | n + 1, hn => by
    show m_evens n (fo m_evens n M) = M
    rw [ez_evens h n (by omega)]
    unfold m_evens
    rw [ez_even h (by omega), ez_even h (by omega)]
theorem ez_start0 {M : Mem} (h : EZ M) : EZ (m_start0 M) := ez_u2 (ez_u2 (ez_u2 h (Or.inl (by omega))) (Or.inl (by omega))) (Or.inl (by omega))
theorem ez_start1 {M : Mem} (h : EZ M) : EZ (m_start1 M) := ez_u2 (ez_u2 (ez_u2 (ez_start0 h) (Or.inl (by omega))) (Or.inl (by omega))) (Or.inl (by omega))
theorem month_0 (M : Mem) : m_month 0 M = fo m_evens 16 (u2 (m_start1 M) 0 9 (m_start1 M 4 2)) := rfl
theorem ez_month {M : Mem} (h : EZ M) : EZ (m_month 0 M) ∧ m_month 0 M 4 0 = 0 := by
  have h1 : EZ (u2 (m_start1 M) 0 9 (m_start1 M 4 2)) := ez_u2 (ez_start1 h) (Or.inl (by omega))
  rw [month_0, ez_evens h1 16 (Nat.le_refl _)]
  refine ⟨h1, ?_⟩
  rw [u2_ne (by omega)]
  unfold m_start1
  rw [u2_ne (by omega), u2_ne (by omega), u2_ne (by omega)]
  show u2 (u2 (u2 M 4 0 0) 4 1 0) 4 2 0 4 0 = 0
  rw [u2_ne (by omega), u2_ne (by omega), u2_same]
theorem ez_months {M : Mem} (h : EZ M) : ∀ k, (m_months 0 k M).1 = 0 ∧ EZ (m_months 0 k M).2
  | 0 => ⟨rfl, h⟩
  | k + 1 => by
    obtain ⟨h1, h2⟩ := ez_months h k
    obtain ⟨h3, h4⟩ := ez_month h2
    have e : m_months 0 (k + 1) M = m_monthsS 0 k (m_months 0 k M) := by
      unfold m_months
      rw [fo_s]
    rw [e]
    generalize m_months 0 k M = q at h1 h2 h3 h4
    unfold m_monthsS
    refine ⟨?_, h3⟩
    show q.1 + m_month 0 q.2 4 0 = 0
    rw [h1, h4]
    rfl
theorem ez_take {N T : Mem} (h : EZ N) : EZ (m_take N T) := fun i hi f hf => ((co_take.1 i hi).2 f hf).trans (h i hi f hf)
theorem would_0 {k : Nat} {T : Mem} : (m_would 0 k G0 T).1 = 0 := (ez_months (ez_take ez_G0) k).1
theorem res_0 {T : Mem} : (m_res 0 0 G0 T).1 = 0 := (ez_months (ez_u2 (ez_take ez_G0) (Or.inl (by omega))) 12).1
theorem shut_0 {ce : Nat} (hc : ce < 16) {b : Int32} : m_isShut G0 ce b = 0 := by
  unfold m_isShut
  rw [G0_c hc, G0_c hc]
  split <;> rfl
theorem kept_0 {ce : Nat} (hc : ce < 16) {b : Int32} {k : Nat} {T : Mem} : (m_kept 0 ce b k G0 T).1 = 0 := by
  unfold m_kept
  rw [if_pos (shut_0 hc)]
theorem pass_0 {P : Mem} : ∀ k, (m_pass 0 G0 P k).1.1 = 0 ∧ EZ (m_pass 0 G0 P k).1.2
  | 0 => ⟨rfl, ez_G0⟩
  | k + 1 => by
    obtain ⟨h1, h2⟩ := pass_0 (P := P) k
    obtain ⟨h3, h4⟩ := ez_month h2
    have e : m_pass 0 G0 P (k + 1) = m_passS 0 k (m_pass 0 G0 P k) := by
      unfold m_pass
      rw [fo_s]
    rw [e]
    generalize m_pass 0 G0 P k = q at h1 h2 h3 h4
    unfold m_passS
    refine ⟨?_, h3⟩
    show q.1.1 + m_month 0 q.1.2 4 0 = 0
    rw [h1, h4]
    rfl
theorem may_0 : ∀ i, i < 3 → m_may2 G0 P0 i = 0 := by decide +kernel
theorem ofCell_0 : ∀ i, i < 16 → ∀ k, k < 5 → m_ofCell G0 i k = if k = 0 then 40 else 0 := by decide +kernel
theorem booked_0 : ∀ k, k < 5 → m_booked P0 k = if k = 4 then -1 else 0 := by decide +kernel
theorem many_0 : ∀ k, k < 15 → m_many G0 P0 k = 0 := by decide +kernel
theorem press_0 {i : Nat} (hi : i < 16) : m_pressure G0 i = 0 := by
  unfold m_pressure
  rw [ez_all ez_G0 hi, G0_c hi]
  rfl
theorem room_0 {i : Nat} (hi : i < 16) : ¬ G0 (5 + 2 * i) 0 = 0 := by
  rw [G0_c hi]
  decide
theorem dig_0 : (m_digest 0 G0 G0 P0).1 = 3033182947888530339 := by
  unfold m_digest
  show m_dg (m_dg (m_dg _ _) _) _ = _
  rw [would_0, kept_0 (by omega), kept_0 (by omega)]
  decide +kernel
theorem ofCell_1 : ∀ i, i < 16 → ∀ k, k < 5 → m_ofCell G0 i k = if nI k = 0 then 40 else 0 := by decide +kernel
theorem ofPart_1 : ∀ i, i < 3 → ∀ k, k < 4 → P0 (115 + i) k = if nI i = 0 ∧ nI k = 0 then 100 else 0 := by decide +kernel
theorem booked_1 : ∀ k, k < 5 → m_booked P0 k = if nI k = 4 then -1 else 0 := by decide +kernel
theorem cap_1 : ∀ f, f < 3 → G0 3 f = 40 := by decide +kernel
theorem cell_1 {ce : Nat} {r x y z : Int32} : m_pressure (m_cell G0 ce r x y z) ce = 100 * (x + y + z) / r := by
  unfold m_pressure m_all m_cell
  rw [u2_ne (k := 6 + 2 * ce) (j := 2) (a := 6 + 2 * ce) (b := 0) (by omega), u2_ne (k := 6 + 2 * ce) (j := 1) (a := 6 + 2 * ce) (b := 0) (by omega), u2_same, u2_ne (k := 6 + 2 * ce) (j := 2) (a := 6 + 2 * ce) (b := 1) (by omega), u2_same, u2_same, u2_ne (k := 6 + 2 * ce) (j := 2) (a := 5 + 2 * ce) (b := 0) (by omega), u2_ne (k := 6 + 2 * ce) (j := 1) (a := 5 + 2 * ce) (b := 0) (by omega), u2_ne (k := 6 + 2 * ce) (j := 0) (a := 5 + 2 * ce) (b := 0) (by omega), u2_same]
theorem bes_nb {ce : Nat} (hc : ce < 16) {y : Int32} : r_beside (nI ce) y = 0 ↔ m_nb ce y = -1 := by
  have k0 : ∀ c, c < 16 → (r_beside (nI c) 0 = 0 ↔ m_nb c 0 = -1) := by decide +kernel
  have k1 : ∀ c, c < 16 → (r_beside (nI c) 1 = 0 ↔ m_nb c 1 = -1) := by decide +kernel
  by_cases hy : y = 0
  · subst hy
    exact k0 ce hc
  · have e1 : r_beside (nI ce) y = r_beside (nI ce) 1 := by
      unfold r_beside
      rw [if_neg hy, if_neg (show ¬ (1 : Int32) = 0 by decide)]
    have e2 : m_nb ce y = m_nb ce 1 := by
      unfold m_nb
      rw [if_neg hy, if_neg (show ¬ (1 : Int32) = 0 by decide)]
    rw [e1, e2]
    exact k1 ce hc
theorem bes_out {x y : Int32} (h : ¬ (0 ≤ x ∧ x ≤ 15)) : r_beside x y = 0 := by
  unfold r_beside
  rw [if_neg h]
