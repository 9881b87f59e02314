/-! what a turn keeps -/
section
variable {L d nd : Nat} {xs : Nat → Int32} {G P : Mem} {B : Int}
theorem tz_01 {z : Nat} : tz z = 0 ∨ tz z = 1 := by
  unfold tz
  split
  · exact Or.inr rfl
  · exact Or.inl rfl
theorem tn_lt {N : Nat} (h0 : 0 < N) (hN : N < 2 ^ 31) : tn L xs d N < N := (dw_tn h0 hN).2
theorem turn_gi (g : GI nd G) : GI nd (m_turn L xs d nd G P).1.1 := by
  have h3 := tn_lt (L := L) (xs := xs) (d := d + 2) (N := 3) (by omega) (by omega)
  have h4 := tn_lt (L := L) (xs := xs) (d := d + 3) (N := 4) (by omega) (by omega)
  have h12 := tn_lt (L := L) (xs := xs) (d := d + 5) (N := 12) (by omega) (by omega)
  have gs : GI nd (m_shut (m_shut G (tn L xs (d + 2) 3 + 4 * tn L xs (d + 3) 4) 1 (tz (tn L xs (d + 4) 2))) (tn L xs (d + 5) 12) 0 (tz (tn L xs (d + 6) 2))) := (g.shut (by omega) tz_01).shut (by omega) tz_01
  unfold m_turn
  repeat' split
  all_goals first | with_reducible exact g | with_reducible exact gs | with_reducible exact g.u (by omega)
theorem shut_wi {c : Nat} {b x : Int32} (hc : c < 16) (h : WI B G) : WI B (m_shut G c b x) := by
  unfold m_shut
  split
  · exact h.set (by omega) (by omega) (by omega) (by omega) (by omega) (by omega)
  · exact h.set (by omega) (by omega) (by omega) (by omega) (by omega) (by omega)
theorem turn_wi (h : WI B G) : WI B (m_turn L xs d nd G P).1.1 := by
  have h3 := tn_lt (L := L) (xs := xs) (d := d + 2) (N := 3) (by omega) (by omega)
  have h4 := tn_lt (L := L) (xs := xs) (d := d + 3) (N := 4) (by omega) (by omega)
  have h12 := tn_lt (L := L) (xs := xs) (d := d + 5) (N := 12) (by omega) (by omega)
  have hs : WI B (m_shut (m_shut G (tn L xs (d + 2) 3 + 4 * tn L xs (d + 3) 4) 1 (tz (tn L xs (d + 4) 2))) (tn L xs (d + 5) 12) 0 (tz (tn L xs (d + 6) 2))) := shut_wi (by omega) (shut_wi (by omega) h)
  have h10 := tn_lt (L := L) (xs := xs) (d := d + 2) (N := 10) (by omega) (by omega)
  have h60 := tn_lt (L := L) (xs := xs) (d := d + 3) (N := 60) (by omega) (by omega)
  have h30 := tn_lt (L := L) (xs := xs) (d := d + 2) (N := 30) (by omega) (by omega)
  have ez : (0 : Int32).toInt = 0 := z32
  have e10 := nI_int (n := tn L xs (d + 2) 10) (by omega)
  have e60 := nI_int (n := tn L xs (d + 3) 60) (by omega)
  have e30 := nI_int (n := tn L xs (d + 2) 30) (by omega)
  unfold m_turn
  repeat' split
  all_goals first | with_reducible exact h | with_reducible exact hs | with_reducible exact h.set (by omega) (by omega) (by omega) (by omega) (by omega) (by omega)
theorem turn_pb (h : PB nd P) : PB nd (m_turn L xs d nd G P).1.2 := by
  have k : ∀ i j, (j = 0 ∨ j = 1) → PB nd (u2 P (103 + 2 * i) j 1) := by
    intro i j hj q hq
    have h1 := h q hq
    constructor
    · by_cases e : 103 + 2 * q = 103 + 2 * i ∧ 0 = j
      · rw [e.1, e.2, u2_same]; exact Or.inr rfl
      · rw [u2_ne e]; exact h1.1
    · by_cases e : 103 + 2 * q = 103 + 2 * i ∧ 1 = j
      · rw [e.1, e.2, u2_same]; exact Or.inr rfl
      · rw [u2_ne e]; exact h1.2
  unfold m_turn
  repeat' split
  all_goals first | with_reducible exact h | with_reducible exact k _ _ (Or.inl rfl) | with_reducible exact k _ _ (Or.inr rfl)
theorem turn_d : (m_turn L xs d nd G P).2 ≤ d + 7 := by
  unfold m_turn
  repeat' split
  all_goals first | omega | exact Nat.le_refl _ | (show _ ≤ d + 7; omega)
end
