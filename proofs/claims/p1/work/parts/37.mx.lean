theorem may_0 : ∀ i, i < 3 → m_may2 G0 P0 i = 0 := by decide +kernel
theorem ofCell_0 : ∀ i, i < 16 → ∀ k, k < 5 → m_ofCell G0 i k = if k = 0 then 40 else 0 := by decide +kernel
theorem booked_0 : ∀ k, k < 5 → m_booked P0 k = if k = 4 then -1 else 0 := by decide +kernel
theorem many_0 : ∀ k, k < 15 → m_many G0 P0 k = 0 := by decide +kernel
theorem press_0 {i : Nat} (hi : i < 16) : m_pressure G0 i = 0 := by
  unfold m_pressure
  rw [ez_all ez_G0 hi, G0_c hi]
  rfl
theorem room_0 {i : Nat} (hi : i < 16) : ¬ G0 (5 + 2 * i) 0 = 0 := by
  rw [G0_c hi]
  decide
theorem dig_0 : (m_digest 0 G0 G0 P0).1 = 3033182947888530339 := by
  unfold m_digest
  show m_dg (m_dg (m_dg _ _) _) _ = _
  rw [would_0, kept_0 (by omega), kept_0 (by omega)]
  decide +kernel
theorem ofCell_1 : ∀ i, i < 16 → ∀ k, k < 5 → m_ofCell G0 i k = if nI k = 0 then 40 else 0 := by decide +kernel
theorem ofPart_1 : ∀ i, i < 3 → ∀ k, k < 4 → P0 (115 + i) k = if nI i = 0 ∧ nI k = 0 then 100 else 0 := by decide +kernel
theorem booked_1 : ∀ k, k < 5 → m_booked P0 k = if nI k = 4 then -1 else 0 := by decide +kernel
theorem cap_1 : ∀ f, f < 3 → G0 3 f = 40 := by decide +kernel
theorem cell_1 {ce : Nat} {r x y z : Int32} : m_pressure (m_cell G0 ce r x y z) ce = 100 * (x + y + z) / r := by
  unfold m_pressure m_all m_cell
  rw [u2_ne (k := 6 + 2 * ce) (j := 2) (a := 6 + 2 * ce) (b := 0) (by omega), u2_ne (k := 6 + 2 * ce) (j := 1) (a := 6 + 2 * ce) (b := 0) (by omega), u2_same, u2_ne (k := 6 + 2 * ce) (j := 2) (a := 6 + 2 * ce) (b := 1) (by omega), u2_same, u2_same, u2_ne (k := 6 + 2 * ce) (j := 2) (a := 5 + 2 * ce) (b := 0) (by omega), u2_ne (k := 6 + 2 * ce) (j := 1) (a := 5 + 2 * ce) (b := 0) (by omega), u2_ne (k := 6 + 2 * ce) (j := 0) (a := 5 + 2 * ce) (b := 0) (by omega), u2_same]
theorem bes_nb {ce : Nat} (hc : ce < 16) {y : Int32} : r_beside (nI ce) y = 0 ↔ m_nb ce y = -1 := by
  have k0 : ∀ c, c < 16 → (r_beside (nI c) 0 = 0 ↔ m_nb c 0 = -1) := by decide +kernel
  have k1 : ∀ c, c < 16 → (r_beside (nI c) 1 = 0 ↔ m_nb c 1 = -1) := by decide +kernel
  by_cases hy : y = 0
  · subst hy
    exact k0 ce hc
  · have e1 : r_beside (nI ce) y = r_beside (nI ce) 1 := by
      unfold r_beside
      rw [if_neg hy, if_neg (show ¬ (1 : Int32) = 0 by decide)]
    have e2 : m_nb ce y = m_nb ce 1 := by
      unfold m_nb
      rw [if_neg hy, if_neg (show ¬ (1 : Int32) = 0 by decide)]
    rw [e1, e2]
    exact k1 ce hc
theorem bes_out {x y : Int32} (h : ¬ (0 ≤ x ∧ x ≤ 15)) : r_beside x y = 0 := by
  unfold r_beside
  rw [if_neg h]
