/-! a Ground: 49 cells from g on; its ints are a memory: row k is the cell g + k -/
section
/-- the cell g + k of a Ground at g, with the ints r -/
def gEr (cy : Nat → ClassId) (g k : Nat) (r : Nat → Int32) : va_E :=
  if k = 0 then .inr (2, [.ref (g + 1), .ref (g + 2), .int (r 2), .ref (g + 3), .int (r 4), .int (r 5), .int (r 6), .ref (g + 4), .int (r 8), .int (r 9), .int (r 10), .int (r 11)])
  else if k = 1 then .inl (cy 1, 16, .inr (.inr (.inr (.inr fun i => some (g + (5 + 2 * i))))))
  else if k = 2 then .inl (cy 2, 6, .inr (.inr (.inr (.inr fun i => some (g + (37 + 2 * i))))))
  else if k < 5 then .inl (cy 0, 3, .inl r)
  else if k < 37 then if k % 2 = 1 then .inr (1, [.int (r 0), .ref (g + (k + 1)), .int (r 2), .int (r 3)]) else .inl (cy 0, 3, .inl r)
  else if k % 2 = 1 then .inr (4, [.int (r 0), .int (r 1), .int (r 2), .int (r 3), .ref (g + (k + 1))]) else .inl (cy 0, 3, .inl r)
/-- w0, but a Ground with the ints M at g -/
def gw (cy : Nat → ClassId) (w0 : Nat → va_E) (g : Nat) (M : Mem) : Nat → va_E := fun a => if g ≤ a ∧ a < g + 49 then gEr cy g (a - g) (M (a - g)) else w0 a
variable {cy : Nat → ClassId} {w0 : Nat → va_E} {g : Nat} {M : Mem} {r : Nat → Int32} {i k : Nat}
theorem gw_at (hk : k < 49) : gw cy w0 g M (g + k) = gEr cy g k (M k) := by unfold gw; rw [if_pos (by omega), Nat.add_sub_cancel_left]
theorem gw_g : gw cy w0 g M g = gEr cy g 0 (M 0) := gw_at (k := 0) (by omega)
theorem gw_out {a : Nat} (h : a < g ∨ g + 49 ≤ a) : gw cy w0 g M a = w0 a := by unfold gw; rw [if_neg (by omega)]
theorem gEr_0 : gEr cy g 0 r = .inr (2, [.ref (g + 1), .ref (g + 2), .int (r 2), .ref (g + 3), .int (r 4), .int (r 5), .int (r 6), .ref (g + 4), .int (r 8), .int (r 9), .int (r 10), .int (r 11)]) := rfl
theorem gEr_1 : gEr cy g 1 r = .inl (cy 1, 16, .inr (.inr (.inr (.inr fun i => some (g + (5 + 2 * i)))))) := rfl
theorem gEr_2 : gEr cy g 2 r = .inl (cy 2, 6, .inr (.inr (.inr (.inr fun i => some (g + (37 + 2 * i)))))) := rfl
theorem gEr_3 : gEr cy g 3 r = .inl (cy 0, 3, .inl r) := rfl
theorem gEr_4 : gEr cy g 4 r = .inl (cy 0, 3, .inl r) := rfl
theorem gEr_cell (hi : i < 16) : gEr cy g (5 + 2 * i) r = .inr (1, [.int (r 0), .ref (g + (6 + 2 * i)), .int (r 2), .int (r 3)]) := by
  unfold gEr
  rw [if_neg (by omega), if_neg (by omega), if_neg (by omega), if_neg (by omega), if_pos (by omega), if_pos (by omega), show 5 + 2 * i + 1 = 6 + 2 * i by omega]
theorem gEr_fl (hi : i < 16) : gEr cy g (6 + 2 * i) r = .inl (cy 0, 3, .inl r) := by
  unfold gEr
  rw [if_neg (by omega), if_neg (by omega), if_neg (by omega), if_neg (by omega), if_pos (by omega), if_neg (by omega)]
theorem gEr_well (hi : i < 6) : gEr cy g (37 + 2 * i) r = .inr (4, [.int (r 0), .int (r 1), .int (r 2), .int (r 3), .ref (g + (38 + 2 * i))]) := by
  unfold gEr
  rw [if_neg (by omega), if_neg (by omega), if_neg (by omega), if_neg (by omega), if_neg (by omega), if_pos (by omega), show 37 + 2 * i + 1 = 38 + 2 * i by omega]
theorem gEr_gave (hi : i < 6) : gEr cy g (38 + 2 * i) r = .inl (cy 0, 3, .inl r) := by
  unfold gEr
  rw [if_neg (by omega), if_neg (by omega), if_neg (by omega), if_neg (by omega), if_neg (by omega), if_neg (by omega)]
theorem gw_cell (hi : i < 16) : gw cy w0 g M (g + (5 + 2 * i)) = .inr (1, [.int (M (5 + 2 * i) 0), .ref (g + (6 + 2 * i)), .int (M (5 + 2 * i) 2), .int (M (5 + 2 * i) 3)]) := by rw [gw_at (by omega), gEr_cell hi]
theorem gw_fl (hi : i < 16) : gw cy w0 g M (g + (6 + 2 * i)) = .inl (cy 0, 3, .inl (M (6 + 2 * i))) := by rw [gw_at (by omega), gEr_fl hi]
theorem gw_well (hi : i < 6) : gw cy w0 g M (g + (37 + 2 * i)) = .inr (4, [.int (M (37 + 2 * i) 0), .int (M (37 + 2 * i) 1), .int (M (37 + 2 * i) 2), .int (M (37 + 2 * i) 3), .ref (g + (38 + 2 * i))]) := by rw [gw_at (by omega), gEr_well hi]
theorem gw_gave (hi : i < 6) : gw cy w0 g M (g + (38 + 2 * i)) = .inl (cy 0, 3, .inl (M (38 + 2 * i))) := by rw [gw_at (by omega), gEr_gave hi]
theorem gw_0 : gw cy w0 g M g = .inr (2, [.ref (g + 1), .ref (g + 2), .int (M 0 2), .ref (g + 3), .int (M 0 4), .int (M 0 5), .int (M 0 6), .ref (g + 4), .int (M 0 8), .int (M 0 9), .int (M 0 10), .int (M 0 11)]) := gw_g
theorem gw_1 : gw cy w0 g M (g + 1) = .inl (cy 1, 16, .inr (.inr (.inr (.inr fun i => some (g + (5 + 2 * i)))))) := gw_at (by omega)
theorem gw_2 : gw cy w0 g M (g + 2) = .inl (cy 2, 6, .inr (.inr (.inr (.inr fun i => some (g + (37 + 2 * i)))))) := gw_at (by omega)
theorem gw_3 : gw cy w0 g M (g + 3) = .inl (cy 0, 3, .inl (M 3)) := gw_at (by omega)
theorem gw_4 : gw cy w0 g M (g + 4) = .inl (cy 0, 3, .inl (M 4)) := gw_at (by omega)
/-- an int array of a Ground -/
def gRow (k : Nat) : Prop := k < 49 ∧ ∀ (cy : Nat → ClassId) (g : Nat) (r : Nat → Int32), gEr cy g k r = .inl (cy 0, 3, .inl r)
theorem gRow_fl (hi : i < 16) : gRow (6 + 2 * i) := ⟨by omega, fun _ _ _ => gEr_fl hi⟩
theorem gRow_gave (hi : i < 6) : gRow (38 + 2 * i) := ⟨by omega, fun _ _ _ => gEr_gave hi⟩
theorem gRow_3 : gRow 3 := ⟨by omega, fun _ _ _ => rfl⟩
theorem gRow_4 : gRow 4 := ⟨by omega, fun _ _ _ => rfl⟩
theorem gw_row (h : gRow k) : gw cy w0 g M (g + k) = .inl (cy 0, 3, .inl (M k)) := by rw [gw_at h.1, h.2]
/-- a write -/
theorem gw_sr (hk : k < 49) {x : va_E} (hx : x = gEr cy g k r) : va_up (gw cy w0 g M) (g + k) x = gw cy w0 g (sr M k r) := by
  funext a
  rcases Nat.lt_or_ge a g with h | h
  · rw [xu_ne (by omega), gw_out (Or.inl h), gw_out (Or.inl h)]
  · obtain ⟨b, rfl⟩ := Nat.exists_eq_add_of_le h
    rcases Nat.lt_or_ge b 49 with h2 | h2
    · rw [gw_at h2]
      by_cases hb : b = k
      · subst hb
        rw [xu_same, sr_same, hx]
      · rw [xu_ne (by omega), gw_at h2, sr_ne hb]
    · rw [xu_ne (by omega), gw_out (Or.inr (by omega)), gw_out (Or.inr (by omega))]
theorem gw_u2 (hk : k < 49) {j : Nat} {v : Int32} {x : va_E} (hx : x = gEr cy g k (upd (M k) j v)) : va_up (gw cy w0 g M) (g + k) x = gw cy w0 g (u2 M k j v) := by rw [gw_sr hk hx, sr_upd]
theorem gw_u0 {j : Nat} {v : Int32} {x : va_E} (hx : x = gEr cy g 0 (upd (M 0) j v)) : va_up (gw cy w0 g M) g x = gw cy w0 g (u2 M 0 j v) := gw_u2 (k := 0) (by omega) hx
theorem gw_urow (h : gRow k) {j : Nat} {v : Int32} : va_up (gw cy w0 g M) (g + k) (.inl (cy 0, 3, .inl (upd (M k) j v))) = gw cy w0 g (u2 M k j v) := gw_u2 h.1 (h.2 _ _ _).symm
theorem gw_srow (h : gRow k) {r : Nat → Int32} : va_up (gw cy w0 g M) (g + k) (.inl (cy 0, 3, .inl r)) = gw cy w0 g (sr M k r) := gw_sr h.1 (h.2 _ _ _).symm
theorem gw_gw {N : Mem} : gw cy (gw cy w0 g M) g N = gw cy w0 g N := by
  funext a
  rcases Nat.lt_or_ge a g with h | h
  · rw [gw_out (Or.inl h), gw_out (Or.inl h), gw_out (Or.inl h)]
  · rcases Nat.lt_or_ge a (g + 49) with h2 | h2
    · unfold gw; rw [if_pos ⟨h, h2⟩, if_pos ⟨h, h2⟩]
    · rw [gw_out (Or.inr h2), gw_out (Or.inr h2), gw_out (Or.inr h2)]
theorem gw_ext {N : Mem} (h : ∀ k, k < 49 → M k = N k) : gw cy w0 g M = gw cy w0 g N := by
  funext a
  rcases Nat.lt_or_ge a g with h1 | h1
  · rw [gw_out (Or.inl h1), gw_out (Or.inl h1)]
  · rcases Nat.lt_or_ge a (g + 49) with h2 | h2
    · unfold gw; rw [if_pos ⟨h1, h2⟩, if_pos ⟨h1, h2⟩, h (a - g) (by omega)]
    · rw [gw_out (Or.inr h2), gw_out (Or.inr h2)]
end
section
variable {cy : Nat → ClassId} {w0 : Nat → va_E} {g k : Nat} {M : Mem} {r : Nat → Int32} {D : va_G} {lo n : Nat} {H : Heap} {x : va_E} {j : Nat} {v : Int32}
theorem gp (hP : va_P D vwCl (rl lo n (va_up (gw cy w0 g M) (g + k) x)) H) (hk : k < 49) (hx : x = gEr cy g k (upd (M k) j v)) : va_P D vwCl (rl lo n (gw cy w0 g (u2 M k j v))) H := by rw [gw_u2 hk hx] at hP; exact hP
theorem gp0 (hP : va_P D vwCl (rl lo n (va_up (gw cy w0 g M) g x)) H) (hx : x = gEr cy g 0 (upd (M 0) j v)) : va_P D vwCl (rl lo n (gw cy w0 g (u2 M 0 j v))) H := by rw [gw_u0 hx] at hP; exact hP
theorem gpr (hP : va_P D vwCl (rl lo n (va_up (gw cy w0 g M) (g + k) (.inl (cy 0, 3, .inl (upd (M k) j v))))) H) (h : gRow k) : va_P D vwCl (rl lo n (gw cy w0 g (u2 M k j v))) H := by rw [gw_urow h] at hP; exact hP
theorem gpc (hP : va_P D vwCl (rl lo n (va_up (gw cy w0 g M) (g + k) (.inl (cy 0, 3, .inl r)))) H) (h : gRow k) : va_P D vwCl (rl lo n (gw cy w0 g (sr M k r))) H := by rw [gw_srow h] at hP; exact hP
end
