/-! what is asked of a field: would, best, kept, digest, booking -/
section
variable {nd k w : Nat} {G T P : Mem} {B : Int}
theorem u2_id {M : Mem} {k j : Nat} : u2 M k j (M k j) = M := by
  funext a b
  unfold u2
  split
  · rename_i h; rw [h.1, h.2]
  · rfl
theorem u2_u2 {M : Mem} {k j : Nat} {v v' : Int32} : u2 (u2 M k j v) k j v' = u2 M k j v' := by
  funext a b
  unfold u2
  split <;> rfl
/-- what would come up in k months with the choke v at the well w -/
def vCh (nd w k : Nat) (G : Mem) (v : Int32) : Int32 := (m_months nd k (u2 G (37 + 2 * w) 2 v)).1
theorem bT_v {ch : Nat} (g : GI nd G) : (m_bT nd w k ch G T).1 = vCh nd w k G (nI ch) := by
  unfold m_bT vCh
  exact (sim_months (eo_u2 take_eq rfl) (g.u (by omega)) k).1
theorem would_v (g : GI nd G) : (m_would nd k G T).1 = vCh nd w k G (G (37 + 2 * w) 2) := by
  rw [would_eq g]
  unfold vCh
  rw [u2_id]
theorem best_arg (g : GI nd G) (hn : ∀ ch, ch < 10 → 0 ≤ (vCh nd w k G (nI ch)).toInt) : ∀ i, i < 10 → ∃ b, b < i + 1 ∧ (m_best nd w k G T (i + 1)).1 = (nI b, vCh nd w k G (nI b)) ∧ ∀ ch, ch < i + 1 → (vCh nd w k G (nI ch)).toInt ≤ (vCh nd w k G (nI b)).toInt ∧ (ch < b → (vCh nd w k G (nI ch)).toInt < (vCh nd w k G (nI b)).toInt) := by
  intro i
  induction i with
  | zero =>
    intro _
    refine ⟨0, by omega, ?_, fun ch hch => ?_⟩
    · show (m_bS nd w k G 0 ((0, -1), T)).1 = _
      unfold m_bS
      have h0 := hn 0 (by omega)
      have z1 : (-1 : Int32).toInt = -1 := by decide
      rw [bT_v g, if_neg (fun q => by
        have := Int32.le_iff_toInt_le.mp q
        rw [z1] at this
        omega)]
    · have : ch = 0 := by omega
      subst this
      exact ⟨Int.le_refl _, fun q => absurd q (by omega)⟩
  | succ i ih =>
    intro hi
    obtain ⟨b, h1, h2, h3⟩ := ih (by omega)
    have e : (m_best nd w k G T (i + 1 + 1)).1 = if vCh nd w k G (nI (i + 1)) ≤ vCh nd w k G (nI b) then (nI b, vCh nd w k G (nI b)) else (nI (i + 1), vCh nd w k G (nI (i + 1))) := by
      show (m_bS nd w k G (i + 1) (m_best nd w k G T (i + 1))).1 = _
      unfold m_bS
      rw [h2, bT_v g]
      split <;> rfl
    rw [e]
    by_cases q : vCh nd w k G (nI (i + 1)) ≤ vCh nd w k G (nI b)
    · rw [if_pos q]
      have q := Int32.le_iff_toInt_le.mp q
      refine ⟨b, by omega, rfl, fun ch hch => ?_⟩
      by_cases e : ch = i + 1
      · subst e
        exact ⟨q, fun r => absurd r (by omega)⟩
      · exact h3 ch (by omega)
    · rw [if_neg q]
      have q : ¬ (vCh nd w k G (nI (i + 1))).toInt ≤ (vCh nd w k G (nI b)).toInt := fun r => q (Int32.le_iff_toInt_le.mpr r)
      refine ⟨i + 1, by omega, rfl, fun ch hch => ?_⟩
      by_cases e : ch = i + 1
      · subst e
        exact ⟨Int.le_refl _, fun r => absurd r (by omega)⟩
      · have := (h3 ch (by omega)).1
        exact ⟨by omega, fun _ => by omega⟩
/-- tells that leave the bounds -/
theorem WI.set {M : Mem} {a j : Nat} {v : Int32} (h : WI B M) (hk : a % 2 = 1 ∨ a < 6 ∨ 38 ≤ a) (h1 : a % 2 = 1 → 5 ≤ a → a < 37 → j = 0 → 1 ≤ v.toInt) (h2 : a % 2 = 1 → 37 ≤ a → j = 2 → 0 ≤ v.toInt ∧ v.toInt ≤ 9) (h3 : a = 3 → 0 ≤ v.toInt ∧ v.toInt ≤ 1000000) (h4 : a = 0 → j = 4 → 0 ≤ v.toInt ∧ v.toInt ≤ 1000000) (h5 : a = 0 → j ≠ 5 ∧ j ≠ 6) : WI B (u2 M a j v) := by
  refine ⟨h.1.ne hk, ⟨fun i hi => ?_, fun w hw => ?_, fun f hf => ?_, ?_, ?_⟩, ?_⟩
  · by_cases e : 5 + 2 * i = a ∧ 0 = j
    · obtain ⟨rfl, rfl⟩ := e
      rw [u2_same]
      exact h1 (by omega) (by omega) (by omega) rfl
    · rw [u2_ne e]; exact h.2.1.1 i hi
  · by_cases e : 37 + 2 * w = a ∧ 2 = j
    · obtain ⟨rfl, rfl⟩ := e
      rw [u2_same]
      exact h2 (by omega) (by omega) rfl
    · rw [u2_ne e]; exact h.2.1.2.1 w hw
  · by_cases e : 3 = a ∧ f = j
    · obtain ⟨rfl, rfl⟩ := e
      rw [u2_same]
      exact h3 rfl
    · rw [u2_ne e]; exact h.2.1.2.2.1 f hf
  · by_cases e : 0 = a ∧ 4 = j
    · obtain ⟨rfl, rfl⟩ := e
      rw [u2_same]
      exact h4 rfl rfl
    · rw [u2_ne e]; exact h.2.1.2.2.2.1
  · rw [u2_ne (by omega)]; exact h.2.1.2.2.2.2
  · rw [u2_ne (by omega), u2_ne (by omega)]; exact h.2.2
theorem WI.up {M : Mem} {B' : Int} (h : WI B M) (hb : B ≤ B') : WI B' M := ⟨h.1.up hb, h.2⟩
theorem nI_int {n : Nat} (h : n < 2 ^ 31) : (nI n).toInt = n := by
  have := nI_clamp h
  have h0 : (0 : Int) ≤ (nI n).toInt := by
    have := (nI_leI (a := 0) (b := n) (by omega) h).mpr (by omega)
    have := Int32.le_iff_toInt_le.mp this
    have z : (nI 0).toInt = 0 := by decide
    omega
  unfold Int32.toNatClampNeg at this
  omega
theorem WI.choke (h : WI B G) {ch : Nat} (hc : ch < 10) : WI B (u2 G (37 + 2 * w) 2 (nI ch)) := by
  have := nI_int (n := ch) (by omega)
  exact h.set (by omega) (by omega) (by omega) (by omega) (by omega) (by omega)
theorem vCh_nn (h : WI B G) (g : GI nd G) (hk : k ≤ 40) (hB : B + 216 * k ≤ 1000000) {ch : Nat} (hc : ch < 10) : 0 ≤ (vCh nd w k G (nI ch)).toInt := (months_int (h.choke hc) (g.u (by omega)) k hk hB).2.1
/-- the law's questions about the best choke -/
theorem best_law (h : WI B G) (g : GI nd G) (hw : w < 6) (hk : k ≤ 40) (hB : B + 216 * k ≤ 1000000) : ∃ b, b < 10 ∧ (m_best nd w k G T 10).1.1 = nI b ∧ ∀ ot, ot < 10 → ¬ vCh nd w k G (nI b) < (m_would nd k G T).1 ∧ ¬ vCh nd w k G (nI b) < vCh nd w k G (nI ot) ∧ (vCh nd w k G (nI ot) = vCh nd w k G (nI b) → ¬ nI ot < nI b) := by
  obtain ⟨b, h1, h2, h3⟩ := best_arg (T := T) (w := w) (k := k) g (fun ch hc => vCh_nn h g hk hB hc) 9 (by omega)
  refine ⟨b, h1, by rw [show 10 = 9 + 1 from rfl, h2], fun ot ho => ⟨fun q => ?_, fun q => ?_, fun q r => ?_⟩⟩
  · have hc := h.2.1.2.1 w hw
    have e : G (37 + 2 * w) 2 = nI (G (37 + 2 * w) 2).toNatClampNeg := by
      refine Int32.toInt_inj.mp ?_
      rw [nI_int (by unfold Int32.toNatClampNeg; omega)]
      unfold Int32.toNatClampNeg
      omega
    have := Int32.lt_iff_toInt_lt.mp q
    rw [would_v (w := w) g, e] at this
    have := (h3 (G (37 + 2 * w) 2).toNatClampNeg (by unfold Int32.toNatClampNeg; omega)).1
    omega
  · have := Int32.lt_iff_toInt_lt.mp q
    have := (h3 ot (by omega)).1
    omega
  · have r := (nI_ltI (a := ot) (b := b) (by omega) (by omega)).mp r
    have := (h3 ot (by omega)).2 r
    rw [q] at this
    omega
/-- without the fault that much more would come up -/
theorem sc_shut {M N : Mem} {c : Nat} {b x : Int32} (h : EqOn SC M N) : EqOn SC (m_shut M c b x) (m_shut N c b x) := by
  unfold m_shut
  split
  · exact eo_u2 h rfl
  · exact eo_u2 h rfl
theorem shut_id {c : Nat} {b : Int32} : m_shut G c b (m_isShut G c b) = G := by
  unfold m_shut m_isShut
  by_cases h : b = 0
  · rw [if_pos h, if_pos h, u2_id]
  · rw [if_neg h, if_neg h, u2_id]
theorem shut_shut {c : Nat} {b x y : Int32} : m_shut (m_shut G c b x) c b y = m_shut G c b y := by
  unfold m_shut
  by_cases h : b = 0
  · rw [if_pos h, if_pos h, if_pos h, u2_u2]
  · rw [if_neg h, if_neg h, if_neg h, u2_u2]
theorem kept_law {c : Nat} {b : Int32} {T T' : Mem} (hc : c < 16) (g : GI nd G) : (m_would nd k (m_shut G c b 0) T').1 = (m_would nd k G T).1 + (m_kept nd c b k G T).1 := by
  have gs : GI nd (m_shut G c b 0) := g.shut hc (Or.inl rfl)
  have e : (m_months nd k (m_shut (m_take G (m_would nd k G T).2) c b 0)).1 = (m_months nd k (m_shut G c b 0)).1 := (sim_months (sc_shut take_eq) gs k).1
  rw [would_eq gs]
  unfold m_kept
  split
  · rename_i h
    rw [would_eq g]
    have : m_shut G c b 0 = G := by
      rw [← h]
      exact shut_id
    rw [this]
    show _ = _ + (0 : Int32)
    rw [Int32.add_zero]
  · show _ = _ + ((m_months nd k (m_shut (m_take G (m_would nd k G T).2) c b 0)).1 - (m_would nd k G T).1)
    rw [e, Int32.add_comm, Int32.sub_add_cancel]
theorem kept_eq {c : Nat} {b : Int32} {T T' : Mem} (hc : c < 16) (g : GI nd G) : (m_kept nd c b k G T).1 = (m_kept nd c b k G T').1 := by
  have h1 := kept_law (k := k) (c := c) (b := b) (T := T) (T' := T) hc g
  have h2 := kept_law (k := k) (c := c) (b := b) (T := T') (T' := T) hc g
  rw [h1, would_eq g, would_eq g] at h2
  exact (Int32.add_right_inj _).mp h2
/-- the digest doesn't look at what was tried -/
theorem d3_eq {T T' : Mem} {d : Int64} (g : GI nd G) : ∀ i, (m_d3 nd G P i d T).1 = (m_d3 nd G P i d T').1
  | 0 => rfl
  | i + 1 => by
    have hi := d3_eq (T := T) (T' := T') (d := d) g i
    rw [d3_s, d3_s]
    unfold m_d3S
    split
    · show m_dg _ _ = m_dg _ _
      rw [hi, best_eq (T' := (m_d3 nd G P i d T').2) g]
    · show m_d3w _ _ _ _ _ = m_d3w _ _ _ _ _
      rw [hi]
theorem digest_eq {T T' : Mem} (g : GI nd G) : (m_digest nd G T P).1 = (m_digest nd G T' P).1 := by
  show m_dg (m_dg (m_dg (m_d5 P 5 (m_d4 G P 3 (m_d3 nd G P nd (m_d2 G 16 (m_d1 G P 15)) T).1)) _) _) _ = m_dg (m_dg (m_dg (m_d5 P 5 (m_d4 G P 3 (m_d3 nd G P nd (m_d2 G 16 (m_d1 G P 15)) T').1)) _) _) _
  rw [d3_eq (T' := T') g, would_eq g, would_eq g, kept_eq (T' := T') (by omega) g, kept_eq (b := 0) (T' := T') (by omega) g, kept_eq (b := 1) (T := (m_would nd 3 G (m_d3 nd G P nd (m_d2 G 16 (m_d1 G P 15)) T').2).2) (T' := T') (by omega) g, kept_eq (b := 0) (T := (m_kept nd 5 1 2 G (m_would nd 3 G (m_d3 nd G P nd (m_d2 G 16 (m_d1 G P 15)) T').2).2).2) (T' := T') (by omega) g]
/-- a booking's causes make up its difference -/
theorem book_sum {r f : Int32} : r - P 101 0 = m_bookP nd P r f 101 1 + m_bookP nd P r f 101 2 + m_bookP nd P r f 101 3 := by
  unfold m_bookP
  have e1 : u2 (u2 (u2 (u2 (u2 (u2 (u2 (u2 P 101 3 (r - P 101 0 - m_made P - f)) 101 0 r) 101 1 (m_made P)) 101 2 f) 101 4 (P 0 6)) 101 5 (nI nd)) 101 6 (P 102 0)) 101 7 (P 101 7 + 1) 101 1 = m_made P := by
    simp [u2]
  have e2 : u2 (u2 (u2 (u2 (u2 (u2 (u2 (u2 P 101 3 (r - P 101 0 - m_made P - f)) 101 0 r) 101 1 (m_made P)) 101 2 f) 101 4 (P 0 6)) 101 5 (nI nd)) 101 6 (P 102 0)) 101 7 (P 101 7 + 1) 101 2 = f := by
    simp [u2]
  have e3 : u2 (u2 (u2 (u2 (u2 (u2 (u2 (u2 P 101 3 (r - P 101 0 - m_made P - f)) 101 0 r) 101 1 (m_made P)) 101 2 f) 101 4 (P 0 6)) 101 5 (nI nd)) 101 6 (P 102 0)) 101 7 (P 101 7 + 1) 101 3 = r - P 101 0 - m_made P - f := by
    simp [u2]
  rw [e1, e2, e3]
  generalize m_made P = a
  generalize r - P 101 0 = b
  grind
theorem book_at {r f : Int32} : m_bookP nd P r f 101 0 = r ∧ m_bookP nd P r f 101 4 = P 0 6 ∧ m_bookP nd P r f 101 5 = nI nd ∧ m_bookP nd P r f 0 6 = P 0 6 := by
  unfold m_bookP
  refine ⟨?_, ?_, ?_, ?_⟩ <;> simp [u2]
end
