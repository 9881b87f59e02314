/-! what a Ground's methods do to its ints -/
section
/-- as many times f as there are: f 0, f 1, .. -/
theorem fo_ind {α : Type} {f : Nat → α → α} {P : α → Prop} (h : ∀ i x, P x → P (f i x)) : ∀ (n : Nat) (x : α), P x → P (fo f n x)
  | 0, _, hx => hx
  | n + 1, x, hx => h n _ (fo_ind h n x hx)
/-- what is told stays: rooms, faults, wells, capacities, permit, tank's size, how many wells -/
def Cg (M M' : Mem) : Prop := (∀ k, (k % 2 = 1 ∨ k = 2) → M' k = M k) ∧ M' 0 2 = M 0 2 ∧ M' 0 4 = M 0 4 ∧ M' 0 5 = M 0 5
theorem Cg.rf {M : Mem} : Cg M M := ⟨fun _ _ => rfl, rfl, rfl, rfl⟩
theorem Cg.tr {M M' M'' : Mem} (h : Cg M M') (h' : Cg M' M'') : Cg M M'' := ⟨fun k hk => (h'.1 k hk).trans (h.1 k hk), h'.2.1.trans h.2.1, h'.2.2.1.trans h.2.2.1, h'.2.2.2.trans h.2.2.2⟩
theorem Cg.u2 {M M' : Mem} {k j : Nat} {v : Int32} (h : Cg M M') (hk : k % 2 = 0 ∧ k ≠ 2 ∧ (k = 0 → j ≠ 2 ∧ j ≠ 4 ∧ j ≠ 5)) : Cg M (u2 M' k j v) := by
  refine h.tr ⟨fun a ha => u2_k (by omega), u2_ne (by omega), u2_ne (by omega), u2_ne (by omega)⟩
theorem Cg.fo {M M' : Mem} (h : Cg M M') {f : Nat → Mem → Mem} (hf : ∀ i x, Cg x (f i x)) (n : Nat) : Cg M (fo f n M') := fo_ind (P := fun x => Cg M x) (fun i x hx => hx.tr (hf i x)) n M' h
/-- the well w's cell -/
def cix (M : Mem) (w : Nat) : Nat := (M (37 + 2 * w) 1).toNatClampNeg
/-- nd wells, each in a cell that there is; no cell without room; faults are told by 0 and 1 -/
def GI (nd : Nat) (M : Mem) : Prop := nd ≤ 6 ∧ M 0 2 = nI nd ∧ (∀ w, w < 6 → cix M w < 16 ∧ M (37 + 2 * w) 1 = nI (cix M w)) ∧ ∀ i, i < 16 → ¬ M (5 + 2 * i) 0 = 0 ∧ (M (5 + 2 * i) 2 = 0 ∨ M (5 + 2 * i) 2 = 1) ∧ (M (5 + 2 * i) 3 = 0 ∨ M (5 + 2 * i) 3 = 1)
theorem GI.cg {nd : Nat} {M M' : Mem} (h : GI nd M) (hc : Cg M M') : GI nd M' := by
  refine ⟨h.1, hc.2.1.trans h.2.1, fun w hw => ?_, fun i hi => ?_⟩
  · have e := hc.1 (37 + 2 * w) (by omega)
    unfold cix
    rw [e]
    exact h.2.2.1 w hw
  · rw [hc.1 (5 + 2 * i) (by omega)]
    exact h.2.2.2 i hi
theorem GI.dr {nd : Nat} {M : Mem} (h : GI nd M) : M 0 2 = nI nd := h.2.1
theorem GI.cx {nd : Nat} {M : Mem} (h : GI nd M) {w : Nat} (hw : w < 6) : cix M w < 16 := (h.2.2.1 w hw).1
theorem GI.ce {nd : Nat} {M : Mem} (h : GI nd M) {w : Nat} (hw : w < 6) : M (37 + 2 * w) 1 = nI (cix M w) := (h.2.2.1 w hw).2
theorem GI.rm {nd : Nat} {M : Mem} (h : GI nd M) {i : Nat} (hi : i < 16) : ¬ M (5 + 2 * i) 0 = 0 := (h.2.2.2 i hi).1
theorem GI.sh {nd : Nat} {M : Mem} (h : GI nd M) {i : Nat} (hi : i < 16) : (M (5 + 2 * i) 2 = 0 ∨ M (5 + 2 * i) 2 = 1) ∧ (M (5 + 2 * i) 3 = 0 ∨ M (5 + 2 * i) 3 = 1) := (h.2.2.2 i hi).2
/-- a row that moves: a cell's fluids or what a well gave -/
theorem cg_mvs {i k2 : Nat} {t al : Int32} (h2 : k2 % 2 = 0 ∧ 3 < k2) (f : Nat) (M : Mem) : Cg M (m_mvs i t al k2 f M) := (Cg.rf.u2 (by omega)).u2 (by omega)
theorem cg_moveOut {M : Mem} {i k2 : Nat} {t : Int32} (h2 : k2 % 2 = 0 ∧ 3 < k2) : Cg M (m_moveOut M i t k2) := by
  unfold m_moveOut
  split
  · exact Cg.rf.fo (fun f x => cg_mvs h2 f x) 3
  · exact Cg.rf
def m_forget (w : Nat) (M : Mem) : Mem := fo (fun f M => u2 M (38 + 2 * w) f 0) 3 M
theorem cg_forget {w : Nat} {M : Mem} : Cg M (m_forget w M) := Cg.rf.fo (fun f x => Cg.rf.u2 (by omega)) 3
def m_hasP (M : Mem) (w : Nat) : Int32 := if M (37 + 2 * w) 0 = 0 then if M (38 + 2 * w) 0 + M (38 + 2 * w) 1 + M (38 + 2 * w) 2 ≤ 0 then 0 else 1 else 0
def m_may (M : Mem) (f : Nat) : Int32 := if nI f = 0 then jmin (M 3 f - M 4 f) (M 0 5 - M 0 6) else if nI f = 2 then jmin (M 3 f - M 4 f) (M 0 8 - M 4 2) else M 3 f - M 4 f
def m_putIn (M : Mem) (w f : Nat) (x : Int32) : Mem := u2 (u2 M (6 + 2 * cix M w) f (M (6 + 2 * cix M w) f + x)) (38 + 2 * w) f x
theorem cg_putIn {M : Mem} {w f : Nat} {x : Int32} : Cg M (m_putIn M w f x) := (Cg.rf.u2 (by omega)).u2 (by omega)
def m_times0 (M : Mem) (w : Nat) : Int32 := M (37 + 2 * w) 2 * jmax 0 (m_pressure M (cix M w) - 50) / 100
def m_timesS (M : Mem) (c : Nat) (f : Nat) (t : Int32) : Int32 := jmin t (m_mostTimes M c f (m_may M f))
def m_times (M : Mem) (w : Nat) : Int32 := fo (m_timesS M (cix M w)) 3 (m_times0 M w)
def m_upS (w f : Nat) (M : Mem) : Mem := u2 M 4 f (M 4 f + M (38 + 2 * w) f)
def m_produce1 (M : Mem) (w : Nat) : Mem := fo (m_upS w) 3 (m_moveOut M (cix M w) (m_times M w) (38 + 2 * w))
def m_produce (w : Nat) (M : Mem) : Mem := u2 (m_produce1 M w) 0 6 (m_produce1 M w 0 6 + m_produce1 M w (38 + 2 * w) 0)
theorem cg_produce1 {M : Mem} {w : Nat} : Cg M (m_produce1 M w) := (cg_moveOut (by omega)).fo (fun f x => Cg.rf.u2 (by omega)) 3
theorem cg_produce {M : Mem} {w : Nat} : Cg M (m_produce w M) := cg_produce1.u2 (by omega)
def m_start0 (M : Mem) : Mem := fo (fun f M => u2 M 4 f 0) 3 M
def m_start1 (M : Mem) : Mem := u2 (u2 (u2 (m_start0 M) 0 10 0) 0 11 0) 0 8 (u2 (u2 (m_start0 M) 0 10 0) 0 11 0 0 4)
def m_startS (w : Nat) (M : Mem) : Mem := if m_forget w M (37 + 2 * w) 0 = 2 then u2 (m_forget w M) 0 8 (m_forget w M 0 8 + 2 * m_forget w M (37 + 2 * w) 2) else m_forget w M
def m_start (nd : Nat) (M : Mem) : Mem := fo m_startS nd (m_start1 M)
theorem cg_start0 {M : Mem} {k : Nat} : Cg M (fo (fun f M => u2 M 4 f 0) k M) := Cg.rf.fo (fun f x => Cg.rf.u2 (by omega)) k
theorem cg_start1 {M : Mem} : Cg M (m_start1 M) := ((cg_start0.u2 (by omega)).u2 (by omega)).u2 (by omega)
theorem cg_startS {w : Nat} {M : Mem} : Cg M (m_startS w M) := by
  unfold m_startS
  split
  · exact cg_forget.u2 (by omega)
  · exact cg_forget
theorem cg_start {nd : Nat} {M : Mem} : Cg M (m_start nd M) := cg_start1.fo (fun w x => cg_startS) nd
def m_gasS (w : Nat) (q : Int32 × Mem) : Int32 × Mem := if q.2 (37 + 2 * w) 0 = 2 then (q.1 - jmin q.1 (2 * q.2 (37 + 2 * w) 2), u2 (m_putIn q.2 w 2 (jmin q.1 (2 * q.2 (37 + 2 * w) 2))) 0 10 (m_putIn q.2 w 2 (jmin q.1 (2 * q.2 (37 + 2 * w) 2)) 0 10 + jmin q.1 (2 * q.2 (37 + 2 * w) 2))) else q
def m_gas (nd : Nat) (M : Mem) : Mem := u2 (fo m_gasS nd (M 4 2, M)).2 0 9 (fo m_gasS nd (M 4 2, M)).1
theorem cg_gasS {w : Nat} {q : Int32 × Mem} : Cg q.2 (m_gasS w q).2 := by
  unfold m_gasS
  split
  · exact cg_putIn.u2 (by omega)
  · exact Cg.rf
theorem cg_gas1 {k : Nat} {M : Mem} {x : Int32} : Cg M (fo m_gasS k (x, M)).2 := fo_ind (P := fun q => Cg M q.2) (fun w q h => h.tr cg_gasS) k (x, M) Cg.rf
theorem cg_gas {nd : Nat} {M : Mem} : Cg M (m_gas nd M) := cg_gas1.u2 (by omega)
def m_waterS (w : Nat) (M : Mem) : Mem := if M (37 + 2 * w) 0 = 1 then if 200 ≤ m_pressure M (cix M w) then M else u2 (m_putIn M w 1 (2 * M (37 + 2 * w) 2)) 0 11 (m_putIn M w 1 (2 * M (37 + 2 * w) 2) 0 11 + 2 * M (37 + 2 * w) 2) else M
def m_water (nd : Nat) (M : Mem) : Mem := fo m_waterS nd M
theorem cg_waterS {w : Nat} {M : Mem} : Cg M (m_waterS w M) := by
  unfold m_waterS
  split
  · split
    · exact Cg.rf
    · exact cg_putIn.u2 (by omega)
  · exact Cg.rf
theorem cg_water1 {k : Nat} {M : Mem} : Cg M (fo m_waterS k M) := Cg.rf.fo (fun w x => cg_waterS) k
/-- PoreField.neighbour -/
def m_nb (c : Nat) (b : Int32) : Int32 := if b = 0 then if nI c + 4 < 16 then nI c + 4 else -1 else if nI c - nI c / 4 * 4 = 3 then -1 else nI c + 1
def nbd (c : Nat) (b : Int32) : Nat := if b = 0 then c + 4 else c + 1
theorem nb_ok {c : Nat} {b : Int32} (hc : c < 16) (h : ¬ m_nb c b = -1) : nbd c b < 16 ∧ m_nb c b = nI (nbd c b) := by
  have k : ∀ c, c < 16 → (¬ (if nI c + 4 < 16 then nI c + 4 else (-1 : Int32)) = -1 → c + 4 < 16 ∧ (if nI c + 4 < 16 then nI c + 4 else (-1 : Int32)) = nI (c + 4)) ∧ (¬ (if nI c - nI c / 4 * 4 = 3 then (-1 : Int32) else nI c + 1) = -1 → c + 1 < 16 ∧ (if nI c - nI c / 4 * 4 = 3 then (-1 : Int32) else nI c + 1) = nI (c + 1)) := by decide +kernel
  unfold m_nb at h ⊢
  unfold nbd
  by_cases hb : b = 0
  · rw [if_pos hb] at h ⊢
    rw [if_pos hb]
    exact (k c hc).1 h
  · rw [if_neg hb] at h ⊢
    rw [if_neg hb]
    exact (k c hc).2 h
def m_even (b : Int32) (c : Nat) (M : Mem) : Mem :=
  if m_nb c b = -1 then M else if m_isShut M c b = 0 then
    if m_pressure M c - m_pressure M (nbd c b) ≤ 0 then m_moveOut M (nbd c b) (-(m_pressure M c - m_pressure M (nbd c b)) / 20) (6 + 2 * c) else m_moveOut M c ((m_pressure M c - m_pressure M (nbd c b)) / 20) (6 + 2 * nbd c b)
  else M
theorem cg_even {b : Int32} {c : Nat} {M : Mem} : Cg M (m_even b c M) := by
  unfold m_even
  split
  · exact Cg.rf
  · split
    · split
      · exact cg_moveOut (by omega)
      · exact cg_moveOut (by omega)
    · exact Cg.rf
def m_rankS (r w : Nat) (M : Mem) : Mem := if M (37 + 2 * w) 0 = 0 then if M (37 + 2 * w) 3 = nI (r + 1) then m_produce w M else M else M
def m_rank (nd r : Nat) (M : Mem) : Mem := fo (m_rankS r) nd M
def m_evens (c : Nat) (M : Mem) : Mem := m_even 0 c (m_even 1 c M)
def m_month (nd : Nat) (M : Mem) : Mem := fo m_evens 16 (m_water nd (m_gas nd (fo (m_rank nd) 9 (m_start nd M))))
theorem cg_rankS {r w : Nat} {M : Mem} : Cg M (m_rankS r w M) := by
  unfold m_rankS
  split
  · split
    · exact cg_produce
    · exact Cg.rf
  · exact Cg.rf
theorem cg_rank1 {r k : Nat} {M : Mem} : Cg M (fo (m_rankS r) k M) := Cg.rf.fo (fun w x => cg_rankS) k
theorem cg_ranks {nd k : Nat} {M : Mem} : Cg M (fo (m_rank nd) k M) := Cg.rf.fo (fun r x => cg_rank1) k
theorem cg_evens {k : Nat} {M : Mem} : Cg M (fo m_evens k M) := Cg.rf.fo (fun c x => cg_even.tr cg_even) k
theorem cg_month {nd : Nat} {M : Mem} : Cg M (m_month nd M) := (((cg_start.tr cg_ranks).tr cg_gas).tr cg_water1).tr cg_evens
def m_monthsS (nd : Nat) (_ : Nat) (q : Int32 × Mem) : Int32 × Mem := (q.1 + m_month nd q.2 4 0, m_month nd q.2)
def m_months (nd k : Nat) (M : Mem) : Int32 × Mem := fo (m_monthsS nd) k (0, M)
theorem months_succ {nd k : Nat} {M : Mem} : m_months nd (k + 1) M = ((m_months nd k M).1 + m_month nd (m_months nd k M).2 4 0, m_month nd (m_months nd k M).2) := by simp only [m_months, fo, m_monthsS]
theorem cg_monthsS {nd i : Nat} {q : Int32 × Mem} {M : Mem} (h : Cg M q.2) : Cg M (m_monthsS nd i q).2 := by
  simp only [m_monthsS]
  exact Cg.tr (M' := q.2) h (cg_month (nd := nd) (M := q.2))
theorem cg_months {nd k : Nat} {M : Mem} : Cg M (m_months nd k M).2 := by
  unfold m_months
  exact fo_ind (f := m_monthsS nd) (P := fun q => Cg M q.2) (fun i q h => cg_monthsS h) k (0, M) Cg.rf
def m_inAll (M : Mem) (f k : Nat) : Int32 := fo (fun c x => x + M (6 + 2 * c) f) k 0
def m_faultsS (M : Mem) (c : Nat) (x : Int32) : Int32 := x + (if m_isShut M c 1 = 0 then 0 else 1) + (if m_isShut M c 0 = 0 then 0 else 1)
def m_faults (M : Mem) (k : Nat) : Int32 := fo (m_faultsS M) k 0
/-- take -/
def m_takeC (i : Nat) (N M : Mem) : Mem := u2 (u2 (sr (u2 M (5 + 2 * i) 0 (N (5 + 2 * i) 0)) (6 + 2 * i) (va_cpy (N (6 + 2 * i)) (u2 M (5 + 2 * i) 0 (N (5 + 2 * i) 0) (6 + 2 * i)) 0 0 3)) (5 + 2 * i) 2 (N (5 + 2 * i) 2)) (5 + 2 * i) 3 (N (5 + 2 * i) 3)
def m_takeW (i : Nat) (N M : Mem) : Mem := u2 (u2 (u2 (u2 M (37 + 2 * i) 0 (N (37 + 2 * i) 0)) (37 + 2 * i) 1 (N (37 + 2 * i) 1)) (37 + 2 * i) 2 (N (37 + 2 * i) 2)) (37 + 2 * i) 3 (N (37 + 2 * i) 3)
def m_take1 (N M : Mem) : Mem := fo (fun i M => m_takeW i N M) 6 (fo (fun i M => m_takeC i N M) 16 M)
def m_take2 (N M : Mem) : Mem := u2 (m_take1 N M) 0 2 (N 0 2)
def m_take (N M : Mem) : Mem := u2 (u2 (u2 (sr (m_take2 N M) 3 (va_cpy (N 3) (m_take2 N M 3) 0 0 3)) 0 4 (N 0 4)) 0 5 (N 0 5)) 0 6 (N 0 6)
end
