/-! what pass keeps of plugged and due -/
section
variable {nd : Nat} {G P : Mem}
/-- plugged and due stay -/
def Kp (P P' : Mem) : Prop := ∀ i, i < 6 → P' (103 + 2 * i) 0 = P (103 + 2 * i) 0 ∧ P' (103 + 2 * i) 1 = P (103 + 2 * i) 1
theorem Kp.rf : Kp P P := fun _ _ => ⟨rfl, rfl⟩
theorem Kp.tr {P' P2 : Mem} (h : Kp P P') (h' : Kp P' P2) : Kp P P2 := fun i hi => ⟨(h' i hi).1.trans (h i hi).1, (h' i hi).2.trans (h i hi).2⟩
theorem Kp.u2 {k j : Nat} {v : Int32} (hk : (j ≠ 0 ∧ j ≠ 1) ∨ k < 103 ∨ 115 ≤ k ∨ k % 2 = 0) : Kp P (u2 P k j v) := fun i hi => ⟨u2_ne (by omega), u2_ne (by omega)⟩
theorem kp_count : Kp P (m_count nd G P) := by
  unfold m_count
  have h1 : Kp P (fo (m_cup G) 3 P) := fo_ind (P := fun x => Kp P x) (fun i x h => h.tr (Kp.u2 (by omega))) 3 P Kp.rf
  have h2 : Kp P (m_c10 G (m_c9 G (m_c8 G (fo (m_cup G) 3 P)))) := ((h1.tr (Kp.u2 (by omega))).tr (Kp.u2 (by omega))).tr (Kp.u2 (by omega))
  refine fo_ind (P := fun x => Kp P x) (fun w x h => ?_) nd _ h2
  unfold m_cntS
  split
  · exact h.tr (Kp.u2 (by omega))
  · exact h
theorem kp_one {oil : Int32} : Kp P (m_one nd G oil P) := by
  unfold m_one m_oN
  refine fo_ind (f := m_oR nd G) (P := fun q => Kp P q.2) (fun r q h => ?_) _ (oil, P) Kp.rf
  unfold m_oR
  split
  · exact h
  · refine fo_ind (f := m_oS G) (P := fun q => Kp P q.2) (fun w q h => ?_) nd q h
    unfold m_oS
    split
    · exact h
    · split
      · exact h
      · exact h.tr (Kp.u2 (by omega))
theorem kp_alloc1 {oil : Int32} : Kp P (m_alloc1 nd G P oil).2 := by
  unfold m_alloc1
  split
  · exact Kp.rf
  · refine fo_ind (f := m_aS G oil (m_tested G P nd)) (P := fun q => Kp P q.2) (fun w q h => ?_) nd (oil, P) Kp.rf
    unfold m_aS
    split
    · exact h
    · exact h.tr (Kp.u2 (by omega))
theorem kp_alloc {oil : Int32} : Kp P (m_alloc nd G oil P) := kp_alloc1.tr kp_one
theorem kp_entitle {oil : Int32} : Kp P (m_entitle oil P) := by
  have h1 : Kp P (m_eL oil P 3).2 := fo_ind (f := m_eS oil) (P := fun q => Kp P q.2) (fun i q h => by
    unfold m_eS
    exact h.tr (Kp.u2 (by omega))) 3 (oil, P) Kp.rf
  unfold m_entitle
  exact h1.tr (Kp.u2 (by omega))
theorem keep_at (n : Nat) : (∀ i, i < 6 → fo (m_kS G) n P (103 + 2 * i) 0 = P (103 + 2 * i) 0) ∧ (∀ i, i < n → fo (m_kS G) n P (103 + 2 * i) 1 = 0) := by
  induction n with
  | zero => exact ⟨fun _ _ => rfl, fun i hi => absurd hi (by omega)⟩
  | succ n ih =>
    obtain ⟨h1, h2⟩ := ih
    refine ⟨fun i hi => ?_, fun i hi => ?_⟩
    · show m_kS G n (fo (m_kS G) n P) (103 + 2 * i) 0 = _
      unfold m_kS
      split
      · exact h1 i hi
      · rw [u2_ne (by omega), sr_ne (by omega)]
        exact h1 i hi
    · show m_kS G n (fo (m_kS G) n P) (103 + 2 * i) 1 = _
      generalize fo (m_kS G) n P = A at h1 h2 ⊢
      by_cases e : i = n
      · subst e
        unfold m_kS
        split
        · rename_i h; exact h
        · rw [u2_same]
      · unfold m_kS
        split
        · exact h2 i (by omega)
        · rw [u2_ne (by omega), sr_ne (by omega)]
          exact h2 i (by omega)
/-- behind a month: plugged as before, nothing due -/
theorem books_at (h6 : nd ≤ 6) : (∀ i, i < 6 → m_books nd G P (103 + 2 * i) 0 = P (103 + 2 * i) 0) ∧ ∀ i, i < nd → m_books nd G P (103 + 2 * i) 1 = 0 := by
  unfold m_books
  have h0 : Kp P (u2 P 0 6 (P 0 6 + 1)) := Kp.u2 (by omega)
  have h1 : Kp P (m_alloc nd G (G 4 0) (m_count nd G (u2 P 0 6 (P 0 6 + 1)))) := (h0.tr kp_count).tr kp_alloc
  generalize m_alloc nd G (G 4 0) (m_count nd G (u2 P 0 6 (P 0 6 + 1))) = A at h1
  have h2 := keep_at (G := G) (P := A) nd
  have h3 : Kp (m_keep nd G A) (m_entitle (G 4 0) (m_keep nd G A)) := kp_entitle
  refine ⟨fun i hi => ?_, fun i hi => ?_⟩
  · rw [(h3 i hi).1]
    exact (h2.1 i hi).trans (h1 i hi).1
  · rw [(h3 i (by omega)).2]
    exact h2.2 i hi
end
