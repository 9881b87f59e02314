/-! Told.turn, whole -/
def tz (z : Nat) : Int32 := if z = 0 then 1 else 0
/-- ground, the rest and draws behind a turn -/
def m_turn (L : Nat) (xs : Nat → Int32) (d nd : Nat) (G P : Mem) : (Mem × Mem) × Nat :=
  if tn L xs (d + 1) 8 < 2 then (if P (103 + 2 * tn L xs d nd) 0 = 0 then ((u2 G (37 + 2 * tn L xs d nd) 2 (nI (tn L xs (d + 2) 10)), P), d + 3) else ((G, P), d + 2))
  else if tn L xs (d + 1) 8 = 2 then ((u2 G (37 + 2 * tn L xs d nd) 3 (nI (tn L xs (d + 2) 9 + 1)), P), d + 3)
  else if tn L xs (d + 1) 8 = 3 then ((u2 G 3 (tn L xs (d + 2) 3) (nI (tn L xs (d + 3) 60)), P), d + 4)
  else if tn L xs (d + 1) 8 = 4 then ((u2 G 0 4 (nI (tn L xs (d + 2) 30)), P), d + 3)
  else if tn L xs (d + 1) 8 = 5 then ((m_shut (m_shut G (tn L xs (d + 2) 3 + 4 * tn L xs (d + 3) 4) 1 (tz (tn L xs (d + 4) 2))) (tn L xs (d + 5) 12) 0 (tz (tn L xs (d + 6) 2)), P), d + 7)
  else if tn L xs (d + 1) 8 = 6 then (if tn L xs (d + 2) 5 = 0 then (if P (103 + 2 * tn L xs d nd) 0 = 0 then ((u2 G (37 + 2 * tn L xs d nd) 2 0, u2 P (103 + 2 * tn L xs d nd) 0 1), d + 3) else ((G, P), d + 3)) else ((G, P), d + 3))
  else (if G (37 + 2 * tn L xs d nd) 0 = 0 then (if P (103 + 2 * tn L xs d nd) 0 = 0 then ((G, u2 P (103 + 2 * tn L xs d nd) 1 1), d + 2) else ((G, P), d + 2)) else ((G, P), d + 2))
/-- plugged or not, due or not -/
def PB (nd : Nat) (P : Mem) : Prop := ∀ i, i < nd → (P (103 + 2 * i) 0 = 0 ∨ P (103 + 2 * i) 0 = 1) ∧ (P (103 + 2 * i) 1 = 0 ∨ P (103 + 2 * i) 1 = 1)
set_option maxHeartbeats 4000000 in
theorem c_X7_turn (l : Launch) (D : va_G) (cy : Nat → ClassId) (lo n : Nat) (w : Nat → va_E) (b L : Nat) (xs : Nat → Int32) (hbl : b < lo) (hL : L ≤ 260) (A : Nat → Prop) (t d wo : Nat) (wr : Nat → Nat) (nd : Nat) (G T P : Mem) (hT : TW cy w A lo n t b d wo wr nd G T P) (hG : GI nd G) (hnd : 0 < nd) (hd : d < 900000) (hPB : PB nd P) : Met l yX7_turn wsX7_turn ({ frames := 4, cells := 0, slots := 0, locals := 100 }) (PcT D cy lo n w b L xs [.ref t]) (QxT D lo n (fun r u => r = 1 ∧ TW cy u A lo n t b (m_turn L xs d nd G P).2 wo wr nd (m_turn L xs d nd G P).1.1 T (m_turn L xs d nd G P).1.2 ∧ Fr A w u)) 0 0 (fun q : Nat => lo ≤ q) := by
  have hn6 := hG.1
  have hi := (dw_tn (L := L) (xs := xs) (d := d) hnd (by omega)).2
  have h8 := (dw_tn (L := L) (xs := xs) (d := d + 1) (N := 8) (by omega) (by omega)).2
  have hb := hPB _ hi
  rcases (by omega : tn L xs (d + 1) 8 = 0 ∨ tn L xs (d + 1) 8 = 1 ∨ tn L xs (d + 1) 8 = 2 ∨ tn L xs (d + 1) 8 = 3 ∨ tn L xs (d + 1) 8 = 4 ∨ tn L xs (d + 1) 8 = 5 ∨ tn L xs (d + 1) 8 = 6 ∨ tn L xs (d + 1) 8 = 7) with hk | hk | hk | hk | hk | hk | hk | hk
  · rcases hb.1 with hp | hp
    · have e : m_turn L xs d nd G P = ((u2 G (37 + 2 * tn L xs d nd) 2 (nI (tn L xs (d + 2) 10)), P), d + 3) := by simp [m_turn, hk, hp]
      rw [e]
      exact c_X7_turn_0o l D cy lo n w b L xs hbl hL A t d wo wr nd G T P hT hG hnd hd _ rfl hk hp
    · have e : m_turn L xs d nd G P = ((G, P), d + 2) := by simp [m_turn, hk, hp]
      rw [e]
      exact c_X7_turn_0p l D cy lo n w b L xs hbl hL A t d wo wr nd G T P hT hG hnd hd _ rfl hk hp
  · rcases hb.1 with hp | hp
    · have e : m_turn L xs d nd G P = ((u2 G (37 + 2 * tn L xs d nd) 2 (nI (tn L xs (d + 2) 10)), P), d + 3) := by simp [m_turn, hk, hp]
      rw [e]
      exact c_X7_turn_1o l D cy lo n w b L xs hbl hL A t d wo wr nd G T P hT hG hnd hd _ rfl hk hp
    · have e : m_turn L xs d nd G P = ((G, P), d + 2) := by simp [m_turn, hk, hp]
      rw [e]
      exact c_X7_turn_1p l D cy lo n w b L xs hbl hL A t d wo wr nd G T P hT hG hnd hd _ rfl hk hp
  · have e : m_turn L xs d nd G P = ((u2 G (37 + 2 * tn L xs d nd) 3 (nI (tn L xs (d + 2) 9 + 1)), P), d + 3) := by simp [m_turn, hk]
    rw [e]
    exact c_X7_turn_2 l D cy lo n w b L xs hbl hL A t d wo wr nd G T P hT hG hnd hd _ rfl hk
  · have e : m_turn L xs d nd G P = ((u2 G 3 (tn L xs (d + 2) 3) (nI (tn L xs (d + 3) 60)), P), d + 4) := by simp [m_turn, hk]
    rw [e]
    exact c_X7_turn_3 l D cy lo n w b L xs hbl hL A t d wo wr nd G T P hT hG hnd hd _ rfl hk
  · have e : m_turn L xs d nd G P = ((u2 G 0 4 (nI (tn L xs (d + 2) 30)), P), d + 3) := by simp [m_turn, hk]
    rw [e]
    exact c_X7_turn_4 l D cy lo n w b L xs hbl hL A t d wo wr nd G T P hT hG hnd hd _ rfl hk
  · have h1 := (dw_tn (L := L) (xs := xs) (d := d + 4) (N := 2) (by omega) (by omega)).2
    have h2 := (dw_tn (L := L) (xs := xs) (d := d + 6) (N := 2) (by omega) (by omega)).2
    rcases (by omega : tn L xs (d + 4) 2 = 0 ∨ tn L xs (d + 4) 2 = 1) with z1 | z1 <;> rcases (by omega : tn L xs (d + 6) 2 = 0 ∨ tn L xs (d + 6) 2 = 1) with z2 | z2
    · have e : m_turn L xs d nd G P = ((m_shut (m_shut G (tn L xs (d + 2) 3 + 4 * tn L xs (d + 3) 4) 1 1) (tn L xs (d + 5) 12) 0 1, P), d + 7) := by simp [m_turn, hk, z1, z2, tz]
      rw [e]
      exact c_X7_turn_5_00 l D cy lo n w b L xs hbl hL A t d wo wr nd G T P hT hG hnd hd _ rfl hk z1 z2
    · have e : m_turn L xs d nd G P = ((m_shut (m_shut G (tn L xs (d + 2) 3 + 4 * tn L xs (d + 3) 4) 1 1) (tn L xs (d + 5) 12) 0 0, P), d + 7) := by simp [m_turn, hk, z1, z2, tz]
      rw [e]
      exact c_X7_turn_5_01 l D cy lo n w b L xs hbl hL A t d wo wr nd G T P hT hG hnd hd _ rfl hk z1 z2
    · have e : m_turn L xs d nd G P = ((m_shut (m_shut G (tn L xs (d + 2) 3 + 4 * tn L xs (d + 3) 4) 1 0) (tn L xs (d + 5) 12) 0 1, P), d + 7) := by simp [m_turn, hk, z1, z2, tz]
      rw [e]
      exact c_X7_turn_5_10 l D cy lo n w b L xs hbl hL A t d wo wr nd G T P hT hG hnd hd _ rfl hk z1 z2
    · have e : m_turn L xs d nd G P = ((m_shut (m_shut G (tn L xs (d + 2) 3 + 4 * tn L xs (d + 3) 4) 1 0) (tn L xs (d + 5) 12) 0 0, P), d + 7) := by simp [m_turn, hk, z1, z2, tz]
      rw [e]
      exact c_X7_turn_5_11 l D cy lo n w b L xs hbl hL A t d wo wr nd G T P hT hG hnd hd _ rfl hk z1 z2
  · by_cases h5 : tn L xs (d + 2) 5 = 0
    · rcases hb.1 with hp | hp
      · have e : m_turn L xs d nd G P = ((u2 G (37 + 2 * tn L xs d nd) 2 0, u2 P (103 + 2 * tn L xs d nd) 0 1), d + 3) := by simp [m_turn, hk, h5, hp]
        rw [e]
        exact c_X7_turn_6o l D cy lo n w b L xs hbl hL A t d wo wr nd G T P hT hG hnd hd _ rfl hk h5 hp
      · have e : m_turn L xs d nd G P = ((G, P), d + 3) := by simp [m_turn, hk, h5, hp]
        rw [e]
        exact c_X7_turn_6p l D cy lo n w b L xs hbl hL A t d wo wr nd G T P hT hG hnd hd _ rfl hk h5 hp
    · have e : m_turn L xs d nd G P = ((G, P), d + 3) := by simp [m_turn, hk, h5]
      rw [e]
      exact c_X7_turn_6n l D cy lo n w b L xs hbl hL A t d wo wr nd G T P hT hG hnd hd _ rfl hk (by omega)
  · by_cases hkd : G (37 + 2 * tn L xs d nd) 0 = 0
    · rcases hb.1 with hp | hp
      · rcases hb.2 with hdu | hdu
        · have e : m_turn L xs d nd G P = ((G, u2 P (103 + 2 * tn L xs d nd) 1 1), d + 2) := by simp [m_turn, hk, hkd, hp]
          rw [e]
          exact c_X7_turn_7o0 l D cy lo n w b L xs hbl hL A t d wo wr nd G T P hT hG hnd hd _ rfl hk hkd hp hdu
        · have e : m_turn L xs d nd G P = ((G, u2 P (103 + 2 * tn L xs d nd) 1 1), d + 2) := by simp [m_turn, hk, hkd, hp]
          rw [e]
          exact c_X7_turn_7o1 l D cy lo n w b L xs hbl hL A t d wo wr nd G T P hT hG hnd hd _ rfl hk hkd hp hdu
      · have e : m_turn L xs d nd G P = ((G, P), d + 2) := by simp [m_turn, hk, hkd, hp]
        rw [e]
        exact c_X7_turn_7p l D cy lo n w b L xs hbl hL A t d wo wr nd G T P hT hG hnd hd _ rfl hk hkd hp
    · have e : m_turn L xs d nd G P = ((G, P), d + 2) := by simp [m_turn, hk, hkd]
      rw [e]
      exact c_X7_turn_7k l D cy lo n w b L xs hbl hL A t d wo wr nd G T P hT hG hnd hd _ rfl hk hkd
