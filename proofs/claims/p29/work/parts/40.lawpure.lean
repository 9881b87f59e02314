/-! what found and pass do to the numbers -/
section
variable {nd L d : Nat} {xs : Nat → Int32} {G P T : Mem} {B : Int}
theorem found_wi : WI 4752 (m_found L xs d G0).1 := by
  have k1 : ∀ j : Nat, j ≤ 16 → WI (297 * (j : Int)) (fo (m_layS L xs) j (G0, d)).1 := by
    intro j
    induction j with
    | zero => exact fun _ => wi_G0
    | succ j ih =>
      intro hj
      have h := ih (by omega)
      show WI _ (m_layS L xs j (fo (m_layS L xs) j (G0, d))).1
      generalize fo (m_layS L xs) j (G0, d) = q at h
      have h1 := tn_lt (L := L) (xs := xs) (d := q.2 + 1) (N := 60) (by omega) (by omega)
      have h2 := tn_lt (L := L) (xs := xs) (d := q.2 + 2) (N := 90) (by omega) (by omega)
      have h3 := tn_lt (L := L) (xs := xs) (d := q.2 + 3) (N := 60) (by omega) (by omega)
      have h4 := tn_lt (L := L) (xs := xs) (d := q.2 + 4) (N := 40) (by omega) (by omega)
      have e1 := nI_int (n := 15 + tn L xs (q.2 + 1) 60) (by omega)
      have e2 := nI_int (n := tn L xs (q.2 + 2) 90) (by omega)
      have e3 := nI_int (n := tn L xs (q.2 + 3) 60) (by omega)
      have e4 := nI_int (n := tn L xs (q.2 + 4) 40) (by omega)
      unfold m_layS
      split
      · exact h.up (by omega)
      · exact (cell_wi h (by omega) (by omega) ⟨by omega, by omega⟩ ⟨by omega, by omega⟩ ⟨by omega, by omega⟩).up (by omega)
  have k2 : ∀ j, WI 4752 (fo (m_fltS L xs) j (fo (m_layS L xs) 16 (G0, d))).1 := by
    intro j
    induction j with
    | zero => exact (k1 16 (by omega)).up (by omega)
    | succ j h =>
      show WI _ (m_fltS L xs j (fo (m_fltS L xs) j (fo (m_layS L xs) 16 (G0, d)))).1
      generalize fo (m_fltS L xs) j (fo (m_layS L xs) 16 (G0, d)) = q at h
      have h1 := tn_lt (L := L) (xs := xs) (d := q.2) (N := 3) (by omega) (by omega)
      have h2 := tn_lt (L := L) (xs := xs) (d := q.2 + 1) (N := 4) (by omega) (by omega)
      have h3 := tn_lt (L := L) (xs := xs) (d := q.2 + 3) (N := 12) (by omega) (by omega)
      exact shut_wi (by omega) (shut_wi (by omega) h)
  have k4 : ∀ {M : Mem} {kd : Int32} {dd k : Nat}, WI 4752 M → WI 4752 (m_wlK L xs kd dd k M).1 := by
    intro M kd dd k h
    have h1 := tn_lt (L := L) (xs := xs) (d := dd + 1) (N := 8) (by omega) (by omega)
    have e1 := nI_int (n := 2 + tn L xs (dd + 1) 8) (by omega)
    exact (wellG_wi h).set (by omega) (by omega) (by omega) (by omega) (by omega) (by omega)
  have k3 : ∀ j, WI 4752 (fo (m_wlS L xs) j (fo (m_fltS L xs) 5 (fo (m_layS L xs) 16 (G0, d)))).1 := by
    intro j
    induction j with
    | zero => exact k2 5
    | succ j h =>
      show WI _ (m_wlS L xs j (fo (m_wlS L xs) j (fo (m_fltS L xs) 5 (fo (m_layS L xs) 16 (G0, d))))).1
      generalize fo (m_wlS L xs) j (fo (m_fltS L xs) 5 (fo (m_layS L xs) 16 (G0, d))) = q at h
      unfold m_wlS
      split
      · exact k4 h
      · split
        · exact k4 h
        · exact k4 h
  exact k3 3
/-- how many draws found makes -/
theorem found_d : (m_found L xs d G).2 ≤ d + 117 := by
  have k1 : ∀ j, (fo (m_layS L xs) j (G, d)).2 ≤ d + 5 * j := by
    intro j
    induction j with
    | zero => exact Nat.le_refl _
    | succ j h =>
      show (m_layS L xs j (fo (m_layS L xs) j (G, d))).2 ≤ _
      generalize fo (m_layS L xs) j (G, d) = q at h
      unfold m_layS
      split
      · show q.2 + 1 ≤ _; omega
      · show q.2 + 5 ≤ _; omega
  have k2 : ∀ j, (fo (m_fltS L xs) j (fo (m_layS L xs) 16 (G, d))).2 ≤ d + 80 + 5 * j := by
    intro j
    induction j with
    | zero => exact Nat.le_trans (k1 16) (by omega)
    | succ j h =>
      show (m_fltS L xs j (fo (m_fltS L xs) j (fo (m_layS L xs) 16 (G, d)))).2 ≤ _
      generalize fo (m_fltS L xs) j (fo (m_layS L xs) 16 (G, d)) = q at h
      show q.2 + 5 ≤ _
      omega
  have k3 : ∀ j, (fo (m_wlS L xs) j (fo (m_fltS L xs) 5 (fo (m_layS L xs) 16 (G, d)))).2 ≤ d + 105 + 4 * j := by
    intro j
    induction j with
    | zero => exact Nat.le_trans (k2 5) (by omega)
    | succ j h =>
      show (m_wlS L xs j (fo (m_wlS L xs) j (fo (m_fltS L xs) 5 (fo (m_layS L xs) 16 (G, d))))).2 ≤ _
      generalize fo (m_wlS L xs) j (fo (m_fltS L xs) 5 (fo (m_layS L xs) 16 (G, d))) = q at h
      unfold m_wlS
      split
      · show q.2 + 2 ≤ _; omega
      · split
        · show q.2 + 1 + 2 ≤ _; omega
        · show q.2 + 2 + 2 ≤ _; omega
  exact Nat.le_trans (k3 3) (by omega)
/-- pass: plugged as before, nothing due -/
theorem pass_p0 (h6 : nd ≤ 6) : ∀ k i, i < 6 → (m_pass nd G P k).2 (103 + 2 * i) 0 = P (103 + 2 * i) 0
  | 0, _, _ => rfl
  | k + 1, i, hi => by
    simp only [pass_succ]
    exact ((books_at h6).1 i hi).trans (pass_p0 h6 k i hi)
theorem pass_p1 (h6 : nd ≤ 6) {k : Nat} (hk : 1 ≤ k) {i : Nat} (hi : i < nd) : (m_pass nd G P k).2 (103 + 2 * i) 1 = 0 := by
  obtain ⟨j, rfl⟩ : ∃ j, k = j + 1 := ⟨k - 1, by omega⟩
  simp only [pass_succ]
  exact (books_at h6).2 i hi
/-- what was booked stays -/
def K1 (P P' : Mem) : Prop := P' 101 = P 101
theorem K1.tr {P' P2 : Mem} (h : K1 P P') (h' : K1 P' P2) : K1 P P2 := Eq.trans h' h
theorem K1.u2 {k j : Nat} {v : Int32} (hk : k ≠ 101) : K1 P (u2 P k j v) := u2_k hk.symm
theorem k1_books : K1 P (m_books nd G P) := by
  unfold m_books
  have h0 : K1 P (u2 P 0 6 (P 0 6 + 1)) := K1.u2 (by omega)
  generalize u2 P 0 6 (P 0 6 + 1) = P0 at h0
  have h1 : K1 P0 (m_count nd G P0) := by
    unfold m_count
    have h1 : K1 P0 (fo (m_cup G) 3 P0) := fo_ind (P := fun x => K1 P0 x) (fun i x h => h.tr (K1.u2 (by omega))) 3 P0 rfl
    have h2 : K1 P0 (m_c10 G (m_c9 G (m_c8 G (fo (m_cup G) 3 P0)))) := ((h1.tr (K1.u2 (by omega))).tr (K1.u2 (by omega))).tr (K1.u2 (by omega))
    refine fo_ind (P := fun x => K1 P0 x) (fun w x h => ?_) nd _ h2
    unfold m_cntS
    split
    · exact h.tr (K1.u2 (by omega))
    · exact h
  generalize m_count nd G P0 = P1 at h1
  have h2 : K1 P1 (m_alloc nd G (G 4 0) P1) := by
    have k1 : K1 P1 (m_alloc1 nd G P1 (G 4 0)).2 := by
      unfold m_alloc1
      split
      · exact rfl
      · refine fo_ind (f := m_aS G (G 4 0) (m_tested G P1 nd)) (P := fun q => K1 P1 q.2) (fun w q h => ?_) nd (G 4 0, P1) rfl
        unfold m_aS
        split
        · exact h
        · exact h.tr (K1.u2 (by omega))
    unfold m_alloc
    generalize m_alloc1 nd G P1 (G 4 0) = q1 at k1
    refine k1.tr ?_
    unfold m_one m_oN
    refine fo_ind (f := m_oR nd G) (P := fun q => K1 q1.2 q.2) (fun r q h => ?_) _ (q1.1, q1.2) rfl
    unfold m_oR
    split
    · exact h
    · refine fo_ind (f := m_oS G) (P := fun q => K1 q1.2 q.2) (fun w q h => ?_) nd q h
      unfold m_oS
      split
      · exact h
      · split
        · exact h
        · exact h.tr (K1.u2 (by omega))
  generalize m_alloc nd G (G 4 0) P1 = P2 at h2
  have h3 : K1 P2 (m_keep nd G P2) := by
    unfold m_keep
    refine fo_ind (P := fun x => K1 P2 x) (fun w x h => ?_) nd _ rfl
    unfold m_kS
    split
    · exact h
    · exact (h.tr (sr_ne (by omega) : K1 x _)).tr (K1.u2 (by omega))
  generalize m_keep nd G P2 = P3 at h3
  have h4 : K1 P3 (m_entitle (G 4 0) P3) := by
    unfold m_entitle
    have k1 : K1 P3 (m_eL (G 4 0) P3 3).2 := fo_ind (f := m_eS (G 4 0)) (P := fun q => K1 P3 q.2) (fun i q h => by
      unfold m_eS
      exact h.tr (K1.u2 (by omega))) 3 (G 4 0, P3) rfl
    exact k1.tr (K1.u2 (by omega))
  exact (((h0.tr h1).tr h2).tr h3).tr h4
theorem k1_pass : ∀ k, K1 P (m_pass nd G P k).2
  | 0 => rfl
  | k + 1 => by
    simp only [pass_succ]
    exact (k1_pass k).tr k1_books
theorem k1_turn : K1 P (m_turn L xs d nd G P).1.2 := by
  unfold m_turn
  repeat' split
  all_goals first | exact rfl | exact K1.u2 (by omega)
theorem gi_pass (g : GI nd G) (k : Nat) : GI nd (m_pass nd G P k).1.2 := g.cg (cg_pass k)
theorem wi_pass (h : WI B G) (g : GI nd G) {k : Nat} (hk : k ≤ 40) (hB : B + 216 * k ≤ 1000000) : WI (B + 216 * k) (m_pass nd G P k).1.2 := by
  rw [pass_months]
  exact (months_int h g k hk hB).1
theorem pb_pass (h6 : nd ≤ 6) (h : PB nd P) {k : Nat} (hk : 1 ≤ k) : PB nd (m_pass nd G P k).2 := fun i hi => ⟨by rw [pass_p0 h6 k i (by omega)]; exact (h i hi).1, Or.inl (pass_p1 h6 hk hi)⟩
theorem book_k {r f : Int32} {k j : Nat} (hk : k ≠ 101) : m_bookP nd P r f k j = P k j := by
  unfold m_bookP
  rw [u2_ne (by omega), u2_ne (by omega), u2_ne (by omega), u2_ne (by omega), u2_ne (by omega), u2_ne (by omega), u2_ne (by omega), u2_ne (by omega)]
end
