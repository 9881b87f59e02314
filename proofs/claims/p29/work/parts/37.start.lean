/-! a new field, and what found keeps -/
section
variable {nd : Nat} {G P : Mem} {B : Int}
theorem G0_c {i j : Nat} (hi : i < 16) : G0 (5 + 2 * i) j = if j = 0 then 40 else 0 := by
  unfold G0
  rw [if_neg (by omega), if_neg (by omega), if_pos (by omega)]
theorem G0_w {i j : Nat} : G0 (37 + 2 * i) j = if j = 3 then 5 else 0 := by
  unfold G0
  rw [if_neg (by omega), if_neg (by omega), if_neg (by omega), if_pos (by omega)]
theorem G0_f {i j : Nat} : G0 (6 + 2 * i) j = 0 := by
  unfold G0
  rw [if_neg (by omega), if_neg (by omega), if_neg (by omega), if_neg (by omega)]
theorem gi_G0 : GI 0 G0 := by
  have e : ∀ w, G0 (37 + 2 * w) 1 = 0 := fun w => by rw [G0_w, if_neg (by omega)]
  refine ⟨by omega, rfl, fun w _ => ?_, fun i hi => ?_⟩
  · unfold cix
    rw [e w]
    exact ⟨by decide, by decide⟩
  · rw [G0_c hi, G0_c hi, G0_c hi, if_pos rfl, if_neg (by omega), if_neg (by omega)]
    exact ⟨by decide, Or.inl rfl, Or.inl rfl⟩
theorem wi_G0 : WI 0 G0 := by
  have z40 : (40 : Int32).toInt = 40 := by decide
  have hf : ∀ i f, Fl G0 i f = 0 := fun i f => by unfold Fl; rw [G0_f]; exact z32
  have ht : ∀ n, tot G0 n = 0 := by
    intro n
    induction n with
    | zero => rfl
    | succ n ih =>
      show tot G0 n + Fl G0 n 0 + Fl G0 n 1 + Fl G0 n 2 = 0
      rw [ih, hf, hf, hf]
      rfl
  refine ⟨⟨fun i _ f _ => by rw [hf]; omega, by rw [ht]; omega⟩, ⟨fun i hi => ?_, fun w _ => ?_, fun f hf => ?_, ?_, ?_⟩, ?_⟩
  · rw [G0_c hi, if_pos rfl, z40]
    omega
  · rw [G0_w, if_neg (by omega), z32]
    omega
  · rcases (by omega : f = 0 ∨ f = 1 ∨ f = 2) with rfl | rfl | rfl <;> decide
  · decide
  · decide
  · decide
theorem pb_P0 (h6 : nd ≤ 6) : PB nd P0 := by
  intro i hi
  unfold P0
  rw [if_neg (by omega), if_neg (by omega), if_neg (by omega), if_neg (by omega), if_neg (by omega), if_neg (by omega)]
  exact ⟨Or.inl rfl, Or.inl rfl⟩
theorem cell_gi {ce : Nat} {r x y z : Int32} (g : GI nd G) (hr : ¬ r = 0) : GI nd (m_cell G ce r x y z) := by
  have k : ∀ k j, k ≠ 6 + 2 * ce → ¬ (k = 5 + 2 * ce ∧ j = 0) → m_cell G ce r x y z k j = G k j := fun k j h1 h2 => cell_k h2 h1
  refine ⟨g.1, by rw [k _ _ (by omega) (by omega)]; exact g.2.1, fun w hw => ?_, fun i hi => ?_⟩
  · have e : m_cell G ce r x y z (37 + 2 * w) 1 = G (37 + 2 * w) 1 := by
      by_cases e6 : 37 + 2 * w = 6 + 2 * ce
      · omega
      · by_cases e5 : 37 + 2 * w = 5 + 2 * ce ∧ 1 = 0
        · omega
        · exact k _ _ e6 e5
    unfold cix
    rw [e]
    exact g.2.2.1 w hw
  · rw [k _ 2 (by omega) (by omega), k _ 3 (by omega) (by omega)]
    refine ⟨?_, (g.2.2.2 i hi).2⟩
    by_cases e : i = ce
    · subst e
      have : m_cell G i r x y z (5 + 2 * i) 0 = r := by
        unfold m_cell
        rw [u2_ne (by omega), u2_ne (by omega), u2_ne (by omega), u2_same]
      rw [this]
      exact hr
    · rw [k _ 0 (by omega) (by omega)]
      exact (g.2.2.2 i hi).1
theorem WI.fl (h : WI B G) {i f : Nat} {v : Int32} (hi : i < 16) (hf : f < 3) (h0 : 0 ≤ v.toInt) (h1 : v.toInt ≤ 99) : WI (B + 99) (u2 G (6 + 2 * i) f v) := by
  have hl := h.1.le hi hf
  refine ⟨(h.1.set hi hf h0).up (by omega), h.2.1.cg (Cg.rf.u2 (by omega)), ?_⟩
  rw [u2_ne (by omega), u2_ne (by omega)]
  exact h.2.2
theorem cell_wi {ce : Nat} {r x y z : Int32} (h : WI B G) (hc : ce < 16) (hr : 1 ≤ r.toInt) (hx : 0 ≤ x.toInt ∧ x.toInt ≤ 99) (hy : 0 ≤ y.toInt ∧ y.toInt ≤ 99) (hz : 0 ≤ z.toInt ∧ z.toInt ≤ 99) : WI (B + 297) (m_cell G ce r x y z) := by
  have h1 : WI B (u2 G (5 + 2 * ce) 0 r) := h.set (by omega) (by omega) (by omega) (by omega) (by omega) (by omega)
  have h4 := ((h1.fl hc (f := 0) (by omega) hx.1 hx.2).fl hc (f := 1) (by omega) hy.1 hy.2).fl hc (f := 2) (by omega) hz.1 hz.2
  unfold m_cell
  exact h4.up (by omega)
theorem wellG_gi {ce : Nat} {kd : Int32} (g : GI nd G) (hnd : nd < 6) (hc : ce < 16) : GI (nd + 1) (m_wellG G nd ce kd) := by
  refine ⟨by omega, ?_, fun w hw => ?_, fun i hi => ?_⟩
  · unfold m_wellG
    rw [u2_same, g.2.1, nI_1]
  · by_cases e : w = nd
    · subst e
      have : m_wellG G w ce kd (37 + 2 * w) 1 = nI ce := by
        unfold m_wellG
        rw [u2_ne (by omega), u2_same]
      unfold cix
      rw [this, nI_clamp (by omega)]
      exact ⟨hc, rfl⟩
    · have : m_wellG G nd ce kd (37 + 2 * w) 1 = G (37 + 2 * w) 1 := wellG_k (by omega) (by omega)
      unfold cix
      rw [this]
      exact g.2.2.1 w hw
  · rw [wellG_k (by omega) (by omega), wellG_k (by omega) (by omega), wellG_k (by omega) (by omega)]
    exact g.2.2.2 i hi
theorem wellG_wi {ce : Nat} {kd : Int32} (h : WI B G) : WI B (m_wellG G nd ce kd) := by
  have h1 : WI B (u2 G (37 + 2 * nd) 0 kd) := h.set (by omega) (by omega) (by omega) (by omega) (by omega) (by omega)
  have h2 : WI B (u2 (u2 G (37 + 2 * nd) 0 kd) (37 + 2 * nd) 1 (nI ce)) := h1.set (by omega) (by omega) (by omega) (by omega) (by omega) (by omega)
  unfold m_wellG
  exact h2.set (by omega) (by omega) (by omega) (by omega) (by omega) (by omega)
end
