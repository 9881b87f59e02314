section
/-- a write that leaves the invariant -/
theorem GI.u {nd : Nat} {M : Mem} {k j : Nat} {v : Int32} (h : GI nd M) (hk : ¬ (k = 0 ∧ j = 2) ∧ ¬ (k % 2 = 1 ∧ 37 ≤ k ∧ j = 1) ∧ ¬ (k % 2 = 1 ∧ 5 ≤ k ∧ k < 37)) : GI nd (u2 M k j v) := by
  refine ⟨h.1, by rw [u2_ne (by omega)]; exact h.2.1, fun w hw => ?_, fun i hi => ?_⟩
  · have e : u2 M k j v (37 + 2 * w) 1 = M (37 + 2 * w) 1 := u2_ne (by omega)
    unfold cix
    rw [e]
    exact h.2.2.1 w hw
  · rw [u2_ne (by omega), u2_ne (by omega), u2_ne (by omega)]
    exact h.2.2.2 i hi
theorem takeC_row {N M : Mem} {i k : Nat} (hk : k ≠ 5 + 2 * i ∧ k ≠ 6 + 2 * i) : m_takeC i N M k = M k := by
  unfold m_takeC
  rw [u2_k hk.1, u2_k hk.1, sr_ne hk.2, u2_k hk.1]
theorem takeC_f {N M : Mem} {i : Nat} : m_takeC i N M (5 + 2 * i) 0 = N (5 + 2 * i) 0 ∧ m_takeC i N M (5 + 2 * i) 2 = N (5 + 2 * i) 2 ∧ m_takeC i N M (5 + 2 * i) 3 = N (5 + 2 * i) 3 := by
  unfold m_takeC
  refine ⟨?_, ?_, u2_same _ _ _ _⟩
  · rw [u2_ne (by omega), u2_ne (by omega), sr_ne (by omega), u2_same]
  · rw [u2_ne (by omega), u2_same]
theorem takeC_fl {N M : Mem} {i : Nat} : ∀ f, f < 3 → m_takeC i N M (6 + 2 * i) f = N (6 + 2 * i) f := by
  intro f hf
  unfold m_takeC
  rw [u2_ne (by omega), u2_ne (by omega), sr_same]
  unfold va_cpy
  rw [if_pos (by omega)]
  congr 1
  omega
theorem takeW_row {N M : Mem} {i k : Nat} (hk : k ≠ 37 + 2 * i) : m_takeW i N M k = M k := by
  unfold m_takeW
  rw [u2_k hk, u2_k hk, u2_k hk, u2_k hk]
theorem takeW_f {N M : Mem} {i : Nat} : ∀ j, j < 4 → m_takeW i N M (37 + 2 * i) j = N (37 + 2 * i) j := by
  intro j hj
  unfold m_takeW
  rcases (by omega : j = 0 ∨ j = 1 ∨ j = 2 ∨ j = 3) with rfl | rfl | rfl | rfl
  · rw [u2_ne (by omega), u2_ne (by omega), u2_ne (by omega), u2_same]
  · rw [u2_ne (by omega), u2_ne (by omega), u2_same]
  · rw [u2_ne (by omega), u2_same]
  · rw [u2_same]
/-- what is taken over: rooms, faults, fluids -/
theorem takeCs {N M : Mem} : ∀ n, (∀ i, i < n → (fo (fun i M => m_takeC i N M) n M (5 + 2 * i) 0 = N (5 + 2 * i) 0 ∧ fo (fun i M => m_takeC i N M) n M (5 + 2 * i) 2 = N (5 + 2 * i) 2 ∧ fo (fun i M => m_takeC i N M) n M (5 + 2 * i) 3 = N (5 + 2 * i) 3) ∧ ∀ f, f < 3 → fo (fun i M => m_takeC i N M) n M (6 + 2 * i) f = N (6 + 2 * i) f) ∧ ∀ k, (k < 5 ∨ 5 + 2 * n ≤ k) → fo (fun i M => m_takeC i N M) n M k = M k
  | 0 => ⟨fun i hi => absurd hi (by omega), fun k _ => rfl⟩
  | n + 1 => by
    obtain ⟨h1, h2⟩ := takeCs (N := N) (M := M) n
    refine ⟨fun i hi => ?_, fun k hk => ?_⟩
    · show (m_takeC n N _ _ _ = _ ∧ m_takeC n N _ _ _ = _ ∧ m_takeC n N _ _ _ = _) ∧ ∀ f, f < 3 → m_takeC n N _ _ _ = _
      by_cases e : i = n
      · subst e
        exact ⟨takeC_f, takeC_fl⟩
      · rw [takeC_row (k := 5 + 2 * i) (by omega), takeC_row (k := 6 + 2 * i) (by omega)]
        exact h1 i (by omega)
    · show m_takeC n N _ k = _
      rw [takeC_row (by omega)]
      exact h2 k (by omega)
theorem takeWs {N M : Mem} : ∀ n, (∀ i, i < n → ∀ j, j < 4 → fo (fun i M => m_takeW i N M) n M (37 + 2 * i) j = N (37 + 2 * i) j) ∧ ∀ k, (k < 37 ∨ k % 2 = 0) → fo (fun i M => m_takeW i N M) n M k = M k
  | 0 => ⟨fun i hi => absurd hi (by omega), fun k _ => rfl⟩
  | n + 1 => by
    obtain ⟨h1, h2⟩ := takeWs (N := N) (M := M) n
    refine ⟨fun i hi j hj => ?_, fun k hk => ?_⟩
    · show m_takeW n N _ _ _ = _
      by_cases e : i = n
      · subst e
        exact takeW_f j hj
      · rw [takeW_row (by omega)]
        exact h1 i (by omega) j hj
    · show m_takeW n N _ k = _
      rw [takeW_row (by omega)]
      exact h2 k hk
/-- all that is told, and the fluids, and what the tank has -/
def Co (N M : Mem) : Prop := (∀ i, i < 16 → (M (5 + 2 * i) 0 = N (5 + 2 * i) 0 ∧ M (5 + 2 * i) 2 = N (5 + 2 * i) 2 ∧ M (5 + 2 * i) 3 = N (5 + 2 * i) 3) ∧ ∀ f, f < 3 → M (6 + 2 * i) f = N (6 + 2 * i) f) ∧ (∀ i, i < 6 → ∀ j, j < 4 → M (37 + 2 * i) j = N (37 + 2 * i) j) ∧ (∀ f, f < 3 → M 3 f = N 3 f) ∧ M 0 2 = N 0 2 ∧ M 0 4 = N 0 4 ∧ M 0 5 = N 0 5 ∧ M 0 6 = N 0 6
theorem co_take {N M : Mem} : Co N (m_take N M) := by
  have hc := takeCs (N := N) (M := M) 16
  have hw := takeWs (N := N) (M := fo (fun i M => m_takeC i N M) 16 M) 6
  have r0 : ∀ k, k ≠ 0 → k ≠ 3 → m_take N M k = m_take1 N M k := fun k h0 h3 => by
    unfold m_take
    rw [u2_k h0, u2_k h0, u2_k h0, sr_ne h3]
    unfold m_take2
    rw [u2_k h0]
  refine ⟨fun i hi => ?_, fun i hi j hj => ?_, fun f hf => ?_, ?_, ?_, ?_, ?_⟩
  · rw [r0 _ (by omega) (by omega), r0 _ (by omega) (by omega)]
    unfold m_take1
    rw [hw.2 _ (by omega), hw.2 _ (by omega)]
    exact hc.1 i hi
  · rw [r0 _ (by omega) (by omega)]
    exact hw.1 i hi j hj
  · unfold m_take
    rw [u2_ne (by omega), u2_ne (by omega), u2_ne (by omega), sr_same]
    unfold va_cpy
    rw [if_pos (by omega)]
    congr 1
    omega
  · unfold m_take
    rw [u2_ne (by omega), u2_ne (by omega), u2_ne (by omega), sr_ne (by omega)]
    unfold m_take2
    rw [u2_same]
  · unfold m_take
    rw [u2_ne (by omega), u2_ne (by omega), u2_same]
  · unfold m_take
    rw [u2_ne (by omega), u2_same]
  · unfold m_take
    rw [u2_same]
theorem GI.co {nd : Nat} {N M : Mem} (h : GI nd N) (c : Co N M) : GI nd M := by
  refine ⟨h.1, c.2.2.2.1.trans h.2.1, fun w hw => ?_, fun i hi => ?_⟩
  · unfold cix
    rw [c.2.1 w hw 1 (by omega)]
    exact h.2.2.1 w hw
  · rw [(c.1 i hi).1.1, (c.1 i hi).1.2.1, (c.1 i hi).1.2.2]
    exact h.2.2.2 i hi
theorem GI.take {nd : Nat} {N M : Mem} (h : GI nd N) : GI nd (m_take N M) := h.co co_take
/-! what a PoreField's methods do: ground G, trial T, the rest P -/
def m_cup (G : Mem) (f : Nat) (P : Mem) : Mem := u2 P 102 f (P 102 f + G 4 f)
def m_c8 (G P : Mem) : Mem := u2 P 0 8 (P 0 8 + G 0 9)
def m_c9 (G P : Mem) : Mem := u2 P 0 9 (P 0 9 + G 0 10)
def m_c10 (G P : Mem) : Mem := u2 P 0 10 (P 0 10 + G 0 11)
def m_cntS (G : Mem) (w : Nat) (P : Mem) : Mem := if G (37 + 2 * w) 0 = 0 then u2 P (103 + 2 * w) 3 (P (103 + 2 * w) 3 + G (38 + 2 * w) 0) else P
def m_count (nd : Nat) (G P : Mem) : Mem := fo (m_cntS G) nd (m_c10 G (m_c9 G (m_c8 G (fo (m_cup G) 3 P))))
def m_tstS (G P : Mem) (w : Nat) (x : Int32) : Int32 := if m_hasP G w = 0 then x else x + P (104 + 2 * w) 0
def m_tested (G P : Mem) (k : Nat) : Int32 := fo (m_tstS G P) k 0
def m_aS (G : Mem) (oil td : Int32) (w : Nat) (q : Int32 × Mem) : Int32 × Mem := if m_hasP G w = 0 then q else (q.1 - oil * q.2 (104 + 2 * w) 0 / td, u2 q.2 (103 + 2 * w) 4 (q.2 (103 + 2 * w) 4 + oil * q.2 (104 + 2 * w) 0 / td))
def m_alloc1 (nd : Nat) (G P : Mem) (oil : Int32) : Int32 × Mem := if m_tested G P nd ≤ 0 then (oil, P) else fo (m_aS G oil (m_tested G P nd)) nd (oil, P)
def m_oS (G : Mem) (w : Nat) (q : Int32 × Mem) : Int32 × Mem := if q.1 ≤ 0 then q else if m_hasP G w = 0 then q else (q.1 + -1, u2 q.2 (103 + 2 * w) 4 (q.2 (103 + 2 * w) 4 + 1))
def m_oR (nd : Nat) (G : Mem) (_ : Nat) (q : Int32 × Mem) : Int32 × Mem := if q.1 ≤ 0 then q else fo (m_oS G) nd q
def m_oN (nd : Nat) (G : Mem) (oil : Int32) (P : Mem) (k : Nat) : Int32 × Mem := fo (m_oR nd G) k (oil, P)
def m_one (nd : Nat) (G : Mem) (oil : Int32) (P : Mem) : Mem := (m_oN nd G oil P oil.toNatClampNeg).2
def m_alloc (nd : Nat) (G : Mem) (oil : Int32) (P : Mem) : Mem := m_one nd G (m_alloc1 nd G P oil).1 (m_alloc1 nd G P oil).2
/-- a loop that stands still -/
theorem fo_stop {α : Type} {f : Nat → α → α} {x : α} {k : Nat} (h : ∀ i, f i (fo f k x) = fo f k x) : ∀ j, fo f (k + j) x = fo f k x
  | 0 => rfl
  | j + 1 => by
    show f (k + j) (fo f (k + j) x) = _
    rw [fo_stop h j]
    exact h _
theorem oS_stop {G : Mem} {q : Int32 × Mem} {k n : Nat} (hk : k ≤ n) (h : (fo (m_oS G) k q).1 ≤ 0) : fo (m_oS G) n q = fo (m_oS G) k q := by
  obtain ⟨j, rfl⟩ := Nat.exists_eq_add_of_le hk
  exact fo_stop (fun i => by simp only [m_oS, if_pos h]) j
theorem oN_stop {nd : Nat} {G : Mem} {oil : Int32} {P : Mem} {k n : Nat} (hk : k ≤ n) (h : (m_oN nd G oil P k).1 ≤ 0) : m_oN nd G oil P n = m_oN nd G oil P k := by
  obtain ⟨j, rfl⟩ := Nat.exists_eq_add_of_le hk
  exact fo_stop (f := m_oR nd G) (fun i => by unfold m_oR; exact if_pos h) j
def m_kS (G : Mem) (w : Nat) (P : Mem) : Mem := if P (103 + 2 * w) 1 = 0 then P else u2 (sr P (104 + 2 * w) (va_cpy (G (38 + 2 * w)) (P (104 + 2 * w)) 0 0 3)) (103 + 2 * w) 1 0
def m_keep (nd : Nat) (G P : Mem) : Mem := fo (m_kS G) nd P
def m_eS (oil : Int32) (i : Nat) (q : Int32 × Mem) : Int32 × Mem := (q.1 - oil * q.2 (115 + i) 0 / 100, u2 q.2 (115 + i) 1 (q.2 (115 + i) 1 + oil * q.2 (115 + i) 0 / 100))
def m_eL (oil : Int32) (P : Mem) (k : Nat) : Int32 × Mem := fo (m_eS oil) k (oil, P)
def m_entitle (oil : Int32) (P : Mem) : Mem := u2 (m_eL oil P 3).2 (115 + 0) 1 ((m_eL oil P 3).2 (115 + 0) 1 + (m_eL oil P 3).1)
/-- a month of pass: the books behind the ground's month -/
def m_books (nd : Nat) (G P : Mem) : Mem := m_entitle (G 4 0) (m_keep nd G (m_alloc nd G (G 4 0) (m_count nd G (u2 P 0 6 (P 0 6 + 1)))))
def m_passS (nd : Nat) (_ : Nat) (q : (Int32 × Mem) × Mem) : (Int32 × Mem) × Mem := ((q.1.1 + m_month nd q.1.2 4 0, m_month nd q.1.2), m_books nd (m_month nd q.1.2) q.2)
def m_pass (nd : Nat) (G P : Mem) (k : Nat) : (Int32 × Mem) × Mem := fo (m_passS nd) k ((0, G), P)
theorem pass_succ {nd : Nat} {G P : Mem} {k : Nat} : m_pass nd G P (k + 1) = (((m_pass nd G P k).1.1 + m_month nd (m_pass nd G P k).1.2 4 0, m_month nd (m_pass nd G P k).1.2), m_books nd (m_month nd (m_pass nd G P k).1.2) (m_pass nd G P k).2) := by simp only [m_pass, fo, m_passS]
theorem cg_pass {nd : Nat} {G P : Mem} : ∀ k, Cg G (m_pass nd G P k).1.2
  | 0 => Cg.rf
  | k + 1 => by
    simp only [pass_succ]
    exact Cg.tr (cg_pass k) (cg_month (nd := nd))
def m_res0 (G T : Mem) : Mem := u2 (m_take G T) 0 5 1000000
def m_resL (k i : Nat) (T : Mem) : Mem := fo (fun i T => u2 T (37 + 2 * (k + i)) 2 0) i T
def m_res (nd k : Nat) (G T : Mem) : Int32 × Mem := m_months nd 12 (m_resL k (nd - k) (m_res0 G T))
theorem gi_res0 {nd : Nat} {G T : Mem} (h : GI nd G) : GI nd (m_res0 G T) := h.take.u (by omega)
theorem gi_resL {nd k : Nat} {T : Mem} (h : GI nd T) : ∀ i, GI nd (m_resL k i T)
  | 0 => h
  | i + 1 => (gi_resL h i).u (by omega)
def m_made (P : Mem) : Int32 := if P 101 7 = 0 then 0 else P 101 6 - P 102 0
def m_bookP (nd : Nat) (P : Mem) (r f : Int32) : Mem :=
  u2 (u2 (u2 (u2 (u2 (u2 (u2 (u2 P 101 3 (r - P 101 0 - m_made P - f)) 101 0 r) 101 1 (m_made P)) 101 2 f) 101 4 (P 0 6)) 101 5 (nI nd)) 101 6 (P 102 0)) 101 7 (P 101 7 + 1)
def m_ofCell (G : Mem) (c : Nat) : Nat → Int32
  | 0 => G (5 + 2 * c) 0
  | 4 => m_pressure G c
  | k => G (6 + 2 * c) (k - 1)
def m_ofWell (G P : Mem) (w : Nat) : Nat → Int32
  | 0 => G (37 + 2 * w) 0
  | 1 => G (37 + 2 * w) 1
  | 2 => G (37 + 2 * w) 2
  | 3 => G (37 + 2 * w) 3
  | 4 => if P (103 + 2 * w) 0 = 0 then 0 else 1
  | 5 => P (104 + 2 * w) 0
  | 6 => P (104 + 2 * w) 1
  | 7 => P (104 + 2 * w) 2
  | 8 => G (38 + 2 * w) 0
  | 9 => G (38 + 2 * w) 1
  | 10 => G (38 + 2 * w) 2
  | 11 => P (103 + 2 * w) 3
  | 12 => P (103 + 2 * w) 4
  | _ => if P (103 + 2 * w) 1 = 0 then 0 else 1
def m_booked (P : Mem) : Nat → Int32
  | 0 => P 101 0
  | 1 => P 101 1
  | 2 => P 101 2
  | 3 => P 101 3
  | _ => P 101 4
def m_many (G P : Mem) : Nat → Int32
  | 0 => P 0 6
  | 1 => G 0 2
  | 2 => m_inAll G 0 16
  | 3 => m_inAll G 1 16
  | 4 => m_inAll G 2 16
  | 5 => P 102 0
  | 6 => P 102 1
  | 7 => P 102 2
  | 8 => G 0 6
  | 9 => P 0 8
  | 10 => P 0 9
  | 11 => P 0 10
  | 12 => -P 0 8
  | 13 => m_faults G 16
  | _ => P 101 7
def m_may2 (G P : Mem) (i : Nat) : Int32 := jmin (G 0 6) (P (115 + i) 1 - P (115 + i) 2 + 20)
def m_would (nd k : Nat) (G T : Mem) : Int32 × Mem := m_months nd k (m_take G T)
def m_bT (nd w k ch : Nat) (G T : Mem) : Int32 × Mem := m_months nd k (u2 (m_take G T) (37 + 2 * w) 2 (nI ch))
def m_bS (nd w k : Nat) (G : Mem) (ch : Nat) (q : (Int32 × Int32) × Mem) : (Int32 × Int32) × Mem := if (m_bT nd w k ch G q.2).1 ≤ q.1.2 then (q.1, (m_bT nd w k ch G q.2).2) else ((nI ch, (m_bT nd w k ch G q.2).1), (m_bT nd w k ch G q.2).2)
def m_best (nd w k : Nat) (G T : Mem) (i : Nat) : (Int32 × Int32) × Mem := fo (m_bS nd w k G) i ((0, -1), T)
def m_kept (nd ce : Nat) (b : Int32) (k : Nat) (G T : Mem) : Int32 × Mem :=
  if m_isShut G ce b = 0 then (0, T) else ((m_months nd k (m_shut (m_take G (m_would nd k G T).2) ce b 0)).1 - (m_would nd k G T).1, (m_months nd k (m_shut (m_take G (m_would nd k G T).2) ce b 0)).2)
end
