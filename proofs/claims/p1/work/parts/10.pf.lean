/-! a PoreField: 118 cells from o on: its own (rows 0, 99 .. 117), its ground from o + 1 on, its trial from o + 50 on -/
section
def hEr (cy : Nat → ClassId) (o k : Nat) (r : Nat → Int32) : va_E :=
  if k = 0 then .inr (6, [.ref (o + 1), .ref (o + 50), .ref (o + 99), .ref (o + 100), .ref (o + 101), .ref (o + 102), .int (r 6), .int (r 7), .int (r 8), .int (r 9), .int (r 10)])
  else if k = 99 then .inl (cy 3, 6, .inr (.inr (.inr (.inr fun i => some (o + (103 + 2 * i))))))
  else if k = 100 then .inl (cy 4, 3, .inr (.inr (.inr (.inr fun i => some (o + (115 + i))))))
  else if k = 101 then .inr (0, [.int (r 0), .int (r 1), .int (r 2), .int (r 3), .int (r 4), .int (r 5), .int (r 6), .int (r 7)])
  else if k = 102 then .inl (cy 0, 3, .inl r)
  else if k < 115 then if k % 2 = 1 then .inr (5, [.int (r 0), .int (r 1), .ref (o + (k + 1)), .int (r 3), .int (r 4)]) else .inl (cy 0, 3, .inl r)
  else .inr (3, [.int (r 0), .int (r 1), .int (r 2), .int (r 3)])
def hw (cy : Nat → ClassId) (w0 : Nat → va_E) (o : Nat) (P : Mem) : Nat → va_E := fun a => if o ≤ a ∧ a < o + 118 then hEr cy o (a - o) (P (a - o)) else w0 a
variable {cy : Nat → ClassId} {w0 : Nat → va_E} {o : Nat} {P : Mem} {r : Nat → Int32} {i k : Nat}
theorem hw_at (hk : k < 118) : hw cy w0 o P (o + k) = hEr cy o k (P k) := by unfold hw; rw [if_pos (by omega), Nat.add_sub_cancel_left]
theorem hw_out {a : Nat} (h : a < o ∨ o + 118 ≤ a) : hw cy w0 o P a = w0 a := by unfold hw; rw [if_neg (by omega)]
theorem hw_0 : hw cy w0 o P o = .inr (6, [.ref (o + 1), .ref (o + 50), .ref (o + 99), .ref (o + 100), .ref (o + 101), .ref (o + 102), .int (P 0 6), .int (P 0 7), .int (P 0 8), .int (P 0 9), .int (P 0 10)]) := hw_at (k := 0) (by omega)
theorem hw_99 : hw cy w0 o P (o + 99) = .inl (cy 3, 6, .inr (.inr (.inr (.inr fun i => some (o + (103 + 2 * i)))))) := hw_at (by omega)
theorem hw_100 : hw cy w0 o P (o + 100) = .inl (cy 4, 3, .inr (.inr (.inr (.inr fun i => some (o + (115 + i)))))) := hw_at (by omega)
theorem hw_101 : hw cy w0 o P (o + 101) = .inr (0, [.int (P 101 0), .int (P 101 1), .int (P 101 2), .int (P 101 3), .int (P 101 4), .int (P 101 5), .int (P 101 6), .int (P 101 7)]) := hw_at (by omega)
theorem hEr_log (hi : i < 6) : hEr cy o (103 + 2 * i) r = .inr (5, [.int (r 0), .int (r 1), .ref (o + (104 + 2 * i)), .int (r 3), .int (r 4)]) := by
  unfold hEr
  rw [if_neg (by omega), if_neg (by omega), if_neg (by omega), if_neg (by omega), if_neg (by omega), if_pos (by omega), if_pos (by omega), show 103 + 2 * i + 1 = 104 + 2 * i by omega]
theorem hEr_test (hi : i < 6) : hEr cy o (104 + 2 * i) r = .inl (cy 0, 3, .inl r) := by
  unfold hEr
  rw [if_neg (by omega), if_neg (by omega), if_neg (by omega), if_neg (by omega), if_neg (by omega), if_pos (by omega), if_neg (by omega)]
theorem hEr_par (hi : i < 3) : hEr cy o (115 + i) r = .inr (3, [.int (r 0), .int (r 1), .int (r 2), .int (r 3)]) := by
  unfold hEr
  rw [if_neg (by omega), if_neg (by omega), if_neg (by omega), if_neg (by omega), if_neg (by omega), if_neg (by omega)]
theorem hw_log (hi : i < 6) : hw cy w0 o P (o + (103 + 2 * i)) = .inr (5, [.int (P (103 + 2 * i) 0), .int (P (103 + 2 * i) 1), .ref (o + (104 + 2 * i)), .int (P (103 + 2 * i) 3), .int (P (103 + 2 * i) 4)]) := by rw [hw_at (by omega), hEr_log hi]
theorem hw_par (hi : i < 3) : hw cy w0 o P (o + (115 + i)) = .inr (3, [.int (P (115 + i) 0), .int (P (115 + i) 1), .int (P (115 + i) 2), .int (P (115 + i) 3)]) := by rw [hw_at (by omega), hEr_par hi]
def hRow (k : Nat) : Prop := (k = 102 ∨ 104 ≤ k) ∧ k < 118 ∧ ∀ (cy : Nat → ClassId) (o : Nat) (r : Nat → Int32), hEr cy o k r = .inl (cy 0, 3, .inl r)
theorem hRow_test (hi : i < 6) : hRow (104 + 2 * i) := ⟨by omega, by omega, fun _ _ _ => hEr_test hi⟩
theorem hRow_102 : hRow 102 := ⟨by omega, by omega, fun _ _ _ => rfl⟩
theorem hw_row (h : hRow k) : hw cy w0 o P (o + k) = .inl (cy 0, 3, .inl (P k)) := by rw [hw_at h.2.1, h.2.2]
theorem hw_sr (hk : k < 118) {x : va_E} (hx : x = hEr cy o k r) : va_up (hw cy w0 o P) (o + k) x = hw cy w0 o (sr P k r) := by
  funext a
  rcases Nat.lt_or_ge a o with h | h
  · rw [xu_ne (by omega), hw_out (Or.inl h), hw_out (Or.inl h)]
  · obtain ⟨b, rfl⟩ := Nat.exists_eq_add_of_le h
    rcases Nat.lt_or_ge b 118 with h2 | h2
    · rw [hw_at h2]
      by_cases hb : b = k
      · subst hb
        rw [xu_same, sr_same, hx]
      · rw [xu_ne (by omega), hw_at h2, sr_ne hb]
    · rw [xu_ne (by omega), hw_out (Or.inr (by omega)), hw_out (Or.inr (by omega))]
theorem gw_up_out {g a : Nat} {M : Mem} {x : va_E} {w : Nat → va_E} (h : a < g ∨ g + 49 ≤ a) : va_up (gw cy w g M) a x = gw cy (va_up w a x) g M := by
  funext b
  by_cases hb : b = a
  · subst hb
    rw [xu_same, gw_out h, xu_same]
  · rw [xu_ne hb]
    unfold gw
    split
    · rfl
    · rw [xu_ne hb]
theorem gw_comm {g g2 : Nat} {M N : Mem} {w : Nat → va_E} (h : g2 + 49 ≤ g ∨ g + 49 ≤ g2) : gw cy (gw cy w g2 N) g M = gw cy (gw cy w g M) g2 N := by
  funext a
  by_cases h1 : g ≤ a ∧ a < g + 49
  · rw [gw_out (g := g2) (by omega)]
    unfold gw
    rw [if_pos h1, if_pos h1]
  · rw [gw_out (g := g) (by omega)]
    show gw cy w g2 N a = gw cy (gw cy w g M) g2 N a
    by_cases h2 : g2 ≤ a ∧ a < g2 + 49
    · unfold gw
      rw [if_pos h2, if_pos h2]
    · rw [gw_out (g := g2) (by omega), gw_out (g := g2) (by omega), gw_out (g := g) (by omega)]
variable {D : va_G} {lo n : Nat} {H : Heap}
theorem gsw {g g2 : Nat} {M N : Mem} {w : Nat → va_E} (hP : va_P D vwCl (rl lo n (gw cy (gw cy w g2 N) g M)) H) (h : g2 + 49 ≤ g ∨ g + 49 ≤ g2) : va_P D vwCl (rl lo n (gw cy (gw cy w g M) g2 N)) H := by rw [gw_comm h] at hP; exact hP
theorem hp2 {g g2 j : Nat} {M N : Mem} {x : va_E} {v : Int32} (hP : va_P D vwCl (rl lo n (va_up (gw cy (gw cy (hw cy w0 o P) g2 N) g M) (o + k) x)) H) (h1 : o + k < g ∨ g + 49 ≤ o + k) (h2 : o + k < g2 ∨ g2 + 49 ≤ o + k) (hk : k < 118) (hx : x = hEr cy o k (upd (P k) j v)) : va_P D vwCl (rl lo n (gw cy (gw cy (hw cy w0 o (u2 P k j v)) g2 N) g M)) H := by
  rw [gw_up_out h1, gw_up_out h2, hw_sr hk hx, sr_upd] at hP; exact hP
theorem hp20 {g g2 j : Nat} {M N : Mem} {x : va_E} {v : Int32} (hP : va_P D vwCl (rl lo n (va_up (gw cy (gw cy (hw cy w0 o P) g2 N) g M) o x)) H) (h1 : o < g ∨ g + 49 ≤ o) (h2 : o < g2 ∨ g2 + 49 ≤ o) (hx : x = hEr cy o 0 (upd (P 0) j v)) : va_P D vwCl (rl lo n (gw cy (gw cy (hw cy w0 o (u2 P 0 j v)) g2 N) g M)) H := hp2 (k := 0) hP h1 h2 (by omega) hx
theorem hp2r {g g2 j : Nat} {M N : Mem} {v : Int32} (hP : va_P D vwCl (rl lo n (va_up (gw cy (gw cy (hw cy w0 o P) g2 N) g M) (o + k) (.inl (cy 0, 3, .inl (upd (P k) j v))))) H) (h1 : o + k < g ∨ g + 49 ≤ o + k) (h2 : o + k < g2 ∨ g2 + 49 ≤ o + k) (h : hRow k) : va_P D vwCl (rl lo n (gw cy (gw cy (hw cy w0 o (u2 P k j v)) g2 N) g M)) H := hp2 hP h1 h2 h.2.1 (h.2.2 _ _ _).symm
theorem hp2c {g g2 : Nat} {M N : Mem} (hP : va_P D vwCl (rl lo n (va_up (gw cy (gw cy (hw cy w0 o P) g2 N) g M) (o + k) (.inl (cy 0, 3, .inl r)))) H) (h1 : o + k < g ∨ g + 49 ≤ o + k) (h2 : o + k < g2 ∨ g2 + 49 ≤ o + k) (h : hRow k) : va_P D vwCl (rl lo n (gw cy (gw cy (hw cy w0 o (sr P k r)) g2 N) g M)) H := by
  rw [gw_up_out h1, gw_up_out h2, hw_sr h.2.1 (h.2.2 _ _ _).symm] at hP; exact hP
/-- a whole PoreField at o -/
abbrev pw (cy : Nat → ClassId) (w0 : Nat → va_E) (o : Nat) (G T P : Mem) : Nat → va_E := gw cy (gw cy (hw cy w0 o P) (o + 50) T) (o + 1) G
end
