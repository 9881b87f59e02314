/-! whole numbers: what moves is never below nothing and never more than there is -/
section
theorem ia {x y : Int32} (h1 : -2147483648 ≤ x.toInt + y.toInt) (h2 : x.toInt + y.toInt < 2147483648) : (x + y).toInt = x.toInt + y.toInt := by
  rw [Int32.toInt_add, Int.bmod_eq_of_le (by omega) (by omega)]
theorem isb {x y : Int32} (h1 : -2147483648 ≤ x.toInt - y.toInt) (h2 : x.toInt - y.toInt < 2147483648) : (x - y).toInt = x.toInt - y.toInt := by
  rw [Int32.toInt_sub, Int.bmod_eq_of_le (by omega) (by omega)]
theorem im {x y : Int32} {z : Int} (e : x.toInt * y.toInt = z) (h1 : -2147483648 ≤ z) (h2 : z < 2147483648) : (x * y).toInt = z := by
  rw [Int32.toInt_mul, e, Int.bmod_eq_of_le (by omega) (by omega)]
theorem idv {x y : Int32} (h0 : 0 ≤ x.toInt) (h : 0 < y.toInt) : (x / y).toInt = x.toInt / y.toInt := by
  have h1 := Int32.toInt_lt x
  have h2 : x.toInt / y.toInt ≤ x.toInt := Int.ediv_le_self _ h0
  have h3 : 0 ≤ x.toInt / y.toInt := Int.ediv_nonneg h0 (by omega)
  rw [Int32.toInt_div, Int.tdiv_eq_ediv_of_nonneg h0, Int.bmod_eq_of_le (by omega) (by omega)]
theorem jmin_int {x y : Int32} : (jmin x y).toInt = min x.toInt y.toInt := by
  unfold jmin
  split
  · rename_i h; have := Int32.lt_iff_toInt_lt.mp h; omega
  · rename_i h; have : ¬ y.toInt < x.toInt := fun q => h (Int32.lt_iff_toInt_lt.mpr q); omega
theorem jmax_int {x y : Int32} : (jmax x y).toInt = max x.toInt y.toInt := by
  unfold jmax
  split
  · rename_i h; have := Int32.lt_iff_toInt_lt.mp h; omega
  · rename_i h; have : ¬ x.toInt < y.toInt := fun q => h (Int32.lt_iff_toInt_lt.mpr q); omega
theorem jminl_int {x y : Int64} : (jminl x y).toInt = min x.toInt y.toInt := by
  unfold jminl
  split
  · rename_i h; have := Int64.lt_iff_toInt_lt.mp h; omega
  · rename_i h; have : ¬ y.toInt < x.toInt := fun q => h (Int64.lt_iff_toInt_lt.mpr q); omega
theorem z32 : (0 : Int32).toInt = 0 := by decide
def Fl (M : Mem) (i f : Nat) : Int := (M (6 + 2 * i) f).toInt
def fm (f : Nat) : Int := if f = 2 then 2 else 1
theorem flow_int {M : Mem} {i f : Nat} (hf : f < 3) : (m_flow M i f).toInt = fm f * Fl M i f := by
  have h1 := Int32.toInt_lt (M (6 + 2 * i) f)
  have h2 := Int32.le_toInt (M (6 + 2 * i) f)
  unfold m_flow fm Fl
  rcases (by omega : f = 0 ∨ f = 1 ∨ f = 2) with rfl | rfl | rfl
  · rw [if_neg (by decide), if_neg (by decide), Int32.toInt_toInt64]; omega
  · rw [if_neg (by decide), if_neg (by decide), Int32.toInt_toInt64]; omega
  · rw [if_pos (show nI 2 = (2 : Int32) by decide), if_pos rfl, Int64.toInt_mul, Int32.toInt_toInt64, show (2 : Int64).toInt = 2 from by decide, Int.bmod_eq_of_le (by omega) (by omega)]
theorem ldv {x y : Int64} (h0 : 0 ≤ x.toInt) (h : 0 < y.toInt) : (x / y).toInt = x.toInt / y.toInt := by
  have h1 := Int64.toInt_lt x
  have h2 : x.toInt / y.toInt ≤ x.toInt := Int.ediv_le_self _ h0
  have h3 : 0 ≤ x.toInt / y.toInt := Int.ediv_nonneg h0 (by omega)
  rw [Int64.toInt_div, Int.tdiv_eq_ediv_of_nonneg h0, Int.bmod_eq_of_le (by omega) (by omega)]
theorem lm {x y : Int64} {z : Int} (e : x.toInt * y.toInt = z) (h1 : -9223372036854775808 ≤ z) (h2 : z < 9223372036854775808) : (x * y).toInt = z := by
  rw [Int64.toInt_mul, e, Int.bmod_eq_of_le (by omega) (by omega)]
theorem mul_bd {a b A B : Int} (h1 : 0 ≤ a) (h2 : a ≤ A) (h3 : 0 ≤ b) (h4 : b ≤ B) : 0 ≤ a * b ∧ a * b ≤ A * B := ⟨Int.mul_nonneg h1 h3, Int.mul_le_mul h2 h4 h3 (by omega)⟩
theorem fm_bd {f : Nat} : 1 ≤ fm f ∧ fm f ≤ 2 := by unfold fm; split <;> omega
theorem mv_int {M : Mem} {i f : Nat} {t al : Int32} (hf : f < 3) (h0 : 0 ≤ Fl M i f) (ha : 0 < al.toInt) (ht : 0 ≤ t.toInt) : (m_mv M i f t al).toInt = min (Fl M i f) (fm f * Fl M i f * min t.toInt al.toInt / al.toInt) := by
  have h1 := Int32.toInt_lt (M (6 + 2 * i) f)
  have h2 := Int32.toInt_lt t
  have h3 := Int32.toInt_lt al
  have hF : Fl M i f ≤ 2147483647 := by unfold Fl; omega
  have hb := mul_bd (A := 2) (B := 2147483647) (show 0 ≤ fm f by have := @fm_bd f; omega) (@fm_bd f).2 h0 hF
  have hc := mul_bd (A := 2 * 2147483647) (B := 2147483647) hb.1 hb.2 (show 0 ≤ min t.toInt al.toInt by omega) (show min t.toInt al.toInt ≤ 2147483647 by omega)
  have e1 : (m_flow M i f * (jmin t al).toInt64).toInt = fm f * Fl M i f * min t.toInt al.toInt := lm (by rw [flow_int hf, Int32.toInt_toInt64, jmin_int]) (by omega) (by omega)
  have e2 : (m_flow M i f * (jmin t al).toInt64 / al.toInt64).toInt = fm f * Fl M i f * min t.toInt al.toInt / al.toInt := by
    rw [ldv (by rw [e1]; exact hc.1) (by rw [Int32.toInt_toInt64]; exact ha), e1, Int32.toInt_toInt64]
  have h5 : 0 ≤ fm f * Fl M i f * min t.toInt al.toInt / al.toInt := Int.ediv_nonneg hc.1 (by omega)
  unfold m_mv
  rw [Int64.toInt_toInt32, jminl_int, e2, Int32.toInt_toInt64]
  show Int.bmod (min (Fl M i f) _) _ = _
  rw [Int.bmod_eq_of_le (by omega) (by omega)]
theorem mv_ok {M : Mem} {i f : Nat} {t al : Int32} (hf : f < 3) (h0 : 0 ≤ Fl M i f) (ha : 0 < al.toInt) (ht : 0 ≤ t.toInt) : 0 ≤ (m_mv M i f t al).toInt ∧ (m_mv M i f t al).toInt ≤ Fl M i f := by
  have hb := mul_bd (A := 2) (B := Fl M i f) (show 0 ≤ fm f by have := @fm_bd f; omega) (@fm_bd f).2 h0 (Int.le_refl _)
  have h5 : 0 ≤ fm f * Fl M i f * min t.toInt al.toInt / al.toInt := Int.ediv_nonneg (Int.mul_nonneg hb.1 (by omega)) (by omega)
  rw [mv_int hf h0 ha ht]
  omega
/-- how often it may move at most, so that no more than x comes -/
theorem most_int {M : Mem} {i f : Nat} {x : Int32} (hf : f < 3) (h1 : 0 < Fl M i f) (h0 : 0 ≤ x.toInt) (hx : x.toInt < Fl M i f) (ha : Fl M i f ≤ (m_all M i).toInt) : (m_mostTimes M i f x).toInt = ((x.toInt + 1) * (m_all M i).toInt - 1) / (fm f * Fl M i f) := by
  have h2 := Int32.toInt_lt (m_all M i)
  have h3 := Int32.toInt_lt (M (6 + 2 * i) f)
  have hF : Fl M i f ≤ 2147483647 := by unfold Fl; omega
  have hb := mul_bd (A := 2147483647) (B := 2147483647) (show 0 ≤ x.toInt + 1 by omega) (by omega) (show 0 ≤ (m_all M i).toInt by omega) (by omega)
  have hp : 1 ≤ (x.toInt + 1) * (m_all M i).toInt := by
    have := Int.mul_le_mul (show 1 ≤ x.toInt + 1 by omega) (show 1 ≤ (m_all M i).toInt by omega) (by omega) (by omega)
    omega
  have hfp : Fl M i f ≤ fm f * Fl M i f := by
    have := Int.mul_le_mul_of_nonneg_right (@fm_bd f).1 (show 0 ≤ Fl M i f by omega)
    omega
  have e0 : (x.toInt64 + 1).toInt = x.toInt + 1 := by
    rw [Int64.toInt_add, Int32.toInt_toInt64, show (1 : Int64).toInt = 1 from by decide, Int.bmod_eq_of_le (by omega) (by omega)]
  have e1 : ((x.toInt64 + 1) * (m_all M i).toInt64).toInt = (x.toInt + 1) * (m_all M i).toInt := lm (by rw [e0, Int32.toInt_toInt64]) (by omega) (by omega)
  have e2 : ((x.toInt64 + 1) * (m_all M i).toInt64 - 1).toInt = (x.toInt + 1) * (m_all M i).toInt - 1 := by
    rw [Int64.toInt_sub, e1, show (1 : Int64).toInt = 1 from by decide, Int.bmod_eq_of_le (by omega) (by omega)]
  have e3 : (((x.toInt64 + 1) * (m_all M i).toInt64 - 1) / m_flow M i f).toInt = ((x.toInt + 1) * (m_all M i).toInt - 1) / (fm f * Fl M i f) := by
    rw [ldv (by rw [e2]; omega) (by rw [flow_int hf]; omega), e2, flow_int hf]
  have hle : ((x.toInt + 1) * (m_all M i).toInt - 1) / (fm f * Fl M i f) ≤ (m_all M i).toInt := by
    refine Int.ediv_le_of_le_mul (by omega) ?_
    have h4 : (x.toInt + 1) * (m_all M i).toInt ≤ Fl M i f * (m_all M i).toInt := Int.mul_le_mul_of_nonneg_right (by omega) (by omega)
    have h5 : Fl M i f * (m_all M i).toInt ≤ (fm f * Fl M i f) * (m_all M i).toInt := Int.mul_le_mul_of_nonneg_right hfp (by omega)
    have h6 := Int.mul_comm (fm f * Fl M i f) (m_all M i).toInt
    omega
  have hge : 0 ≤ ((x.toInt + 1) * (m_all M i).toInt - 1) / (fm f * Fl M i f) := Int.ediv_nonneg (by omega) (by omega)
  unfold m_mostTimes
  rw [if_neg (fun q => absurd (Int32.le_iff_toInt_le.mp q) (by rw [z32]; unfold Fl at h1; omega)), if_pos (Int32.lt_iff_toInt_lt.mpr hx), Int64.toInt_toInt32, e3, Int.bmod_eq_of_le (by omega) (by omega)]
theorem most_nn {M : Mem} {i f : Nat} {x : Int32} (hf : f < 3) (hF : 0 ≤ Fl M i f) (h0 : 0 ≤ x.toInt) (ha : Fl M i f ≤ (m_all M i).toInt) : 0 ≤ (m_mostTimes M i f x).toInt := by
  by_cases h1 : 0 < Fl M i f
  · by_cases hx : x.toInt < Fl M i f
    · rw [most_int hf h1 h0 hx ha]
      have hp : 1 ≤ (x.toInt + 1) * (m_all M i).toInt := by
        have := Int.mul_le_mul (show 1 ≤ x.toInt + 1 by omega) (show 1 ≤ (m_all M i).toInt by omega) (by omega) (by omega)
        omega
      exact Int.ediv_nonneg (by omega) (Int.mul_nonneg (by have := @fm_bd f; omega) hF)
    · unfold m_mostTimes
      rw [if_neg (fun q => absurd (Int32.le_iff_toInt_le.mp q) (by rw [z32]; unfold Fl at h1; omega)), if_neg (fun q => hx (Int32.lt_iff_toInt_lt.mp q))]
      omega
  · unfold m_mostTimes
    rw [if_pos (Int32.le_iff_toInt_le.mpr (by rw [z32]; unfold Fl at h1; omega))]
    omega
theorem mv_may {M N : Mem} {i f : Nat} {t x : Int32} (hf : f < 3) (hF : 0 ≤ Fl M i f) (h0 : 0 ≤ x.toInt) (ha : Fl M i f ≤ (m_all M i).toInt) (hp : 0 < (m_all M i).toInt) (ht : 0 ≤ t.toInt) (hm : t.toInt ≤ (m_mostTimes M i f x).toInt) (hN : N (6 + 2 * i) f = M (6 + 2 * i) f) : (m_mv N i f t (m_all M i)).toInt ≤ x.toInt := by
  have eN : Fl N i f = Fl M i f := by unfold Fl; rw [hN]
  rw [mv_int hf (by omega) hp ht, eN]
  by_cases hx : x.toInt < Fl M i f
  · have h1 : 0 < Fl M i f := by omega
    rw [most_int hf h1 h0 hx ha] at hm
    have hfp : Fl M i f ≤ fm f * Fl M i f := by
      have := Int.mul_le_mul_of_nonneg_right (@fm_bd f).1 (show 0 ≤ Fl M i f by omega)
      omega
    have h3 : t.toInt * (fm f * Fl M i f) ≤ (x.toInt + 1) * (m_all M i).toInt - 1 := (Int.le_ediv_iff_mul_le (by omega)).mp hm
    have h4 : fm f * Fl M i f * min t.toInt (m_all M i).toInt ≤ fm f * Fl M i f * t.toInt := Int.mul_le_mul_of_nonneg_left (by omega) (by omega)
    have h5 : fm f * Fl M i f * min t.toInt (m_all M i).toInt / (m_all M i).toInt < x.toInt + 1 := by
      refine Int.ediv_lt_of_lt_mul hp ?_
      have := Int.mul_comm (fm f * Fl M i f) t.toInt
      omega
    omega
  · omega
/-- what the cells have, all together -/
def tot (M : Mem) : Nat → Int
  | 0 => 0
  | n + 1 => tot M n + Fl M n 0 + Fl M n 1 + Fl M n 2
theorem tot_ext {M N : Mem} : ∀ n, (∀ i, i < n → ∀ f, f < 3 → Fl N i f = Fl M i f) → tot N n = tot M n
  | 0, _ => rfl
  | n + 1, h => by
    show tot N n + Fl N n 0 + Fl N n 1 + Fl N n 2 = tot M n + Fl M n 0 + Fl M n 1 + Fl M n 2
    rw [tot_ext n (fun i hi => h i (by omega)), h n (by omega) 0 (by omega), h n (by omega) 1 (by omega), h n (by omega) 2 (by omega)]
theorem fl_ne {M : Mem} {i f k j : Nat} {v : Int32} (h : ¬ (6 + 2 * i = k ∧ f = j)) : Fl (u2 M k j v) i f = Fl M i f := by
  unfold Fl
  rw [u2_ne h]
theorem fl_same {M : Mem} {i f : Nat} {v : Int32} : Fl (u2 M (6 + 2 * i) f v) i f = v.toInt := by
  unfold Fl
  rw [u2_same]
theorem tot_u2 {M : Mem} {i f : Nat} {v : Int32} (hf : f < 3) : ∀ n, i < n → tot (u2 M (6 + 2 * i) f v) n = tot M n - Fl M i f + v.toInt
  | 0, h => absurd h (by omega)
  | n + 1, h => by
    show tot _ n + Fl _ n 0 + Fl _ n 1 + Fl _ n 2 = tot M n + Fl M n 0 + Fl M n 1 + Fl M n 2 - _ + _
    by_cases e : i = n
    · subst e
      rw [tot_ext (M := M) i (fun i' hi' f' hf' => fl_ne (by omega))]
      rcases (by omega : f = 0 ∨ f = 1 ∨ f = 2) with rfl | rfl | rfl
      · rw [fl_same, fl_ne (by omega), fl_ne (by omega)]; omega
      · rw [fl_same, fl_ne (by omega), fl_ne (by omega)]; omega
      · rw [fl_same, fl_ne (by omega), fl_ne (by omega)]; omega
    · rw [tot_u2 hf n (by omega), fl_ne (by omega), fl_ne (by omega), fl_ne (by omega)]
      omega
theorem tot_ge {M : Mem} {i f : Nat} (hf : f < 3) : ∀ n, i < n → (∀ i, i < n → ∀ f, f < 3 → 0 ≤ Fl M i f) → Fl M i 0 + Fl M i 1 + Fl M i 2 ≤ tot M n ∧ 0 ≤ tot M n
  | 0, h, _ => absurd h (by omega)
  | n + 1, h, hn => by
    have a0 := hn n (by omega) 0 (by omega)
    have a1 := hn n (by omega) 1 (by omega)
    have a2 := hn n (by omega) 2 (by omega)
    have hz : 0 ≤ tot M n := by
      rcases Nat.eq_zero_or_pos n with rfl | hp
      · exact Int.le_refl 0
      · exact (tot_ge (M := M) (i := 0) (f := 0) (by omega) n hp (fun i hi => hn i (by omega))).2
    show Fl M i 0 + Fl M i 1 + Fl M i 2 ≤ tot M n + Fl M n 0 + Fl M n 1 + Fl M n 2 ∧ 0 ≤ tot M n + Fl M n 0 + Fl M n 1 + Fl M n 2
    by_cases e : i = n
    · subst e
      omega
    · have hi := (tot_ge (i := i) hf n (by omega) (fun i hi => hn i (by omega))).1
      omega
/-- none below 0, in sum no more than B -/
def FI (B : Int) (M : Mem) : Prop := (∀ i, i < 16 → ∀ f, f < 3 → 0 ≤ Fl M i f) ∧ tot M 16 ≤ B
variable {B : Int} {M : Mem}
theorem FI.up {B' : Int} (h : FI B M) (hb : B ≤ B') : FI B' M := ⟨h.1, Int.le_trans h.2 hb⟩
theorem FI.le (h : FI B M) {i f : Nat} (hi : i < 16) (hf : f < 3) : 0 ≤ Fl M i f ∧ Fl M i f ≤ B := by
  have h1 := (tot_ge (M := M) hf 16 hi h.1).1
  have a0 := h.1 i hi 0 (by omega)
  have a1 := h.1 i hi 1 (by omega)
  have a2 := h.1 i hi 2 (by omega)
  have h2 := h.2
  rcases (by omega : f = 0 ∨ f = 1 ∨ f = 2) with rfl | rfl | rfl <;> omega
theorem FI.all (h : FI B M) (hB : B ≤ 1000000) {i : Nat} (hi : i < 16) : (m_all M i).toInt = Fl M i 0 + Fl M i 1 + Fl M i 2 ∧ 0 ≤ (m_all M i).toInt ∧ (m_all M i).toInt ≤ B ∧ ∀ f, f < 3 → Fl M i f ≤ (m_all M i).toInt := by
  have h1 := (tot_ge (M := M) (f := 0) (by omega) 16 hi h.1).1
  have a0 := h.1 i hi 0 (by omega)
  have a1 := h.1 i hi 1 (by omega)
  have a2 := h.1 i hi 2 (by omega)
  have h2 := h.2
  have e : (m_all M i).toInt = Fl M i 0 + Fl M i 1 + Fl M i 2 := by
    unfold m_all
    unfold Fl at *
    have e1 := ia (x := M (6 + 2 * i) 0) (y := M (6 + 2 * i) 1) (by omega) (by omega)
    rw [ia (by omega) (by omega), e1]
  rw [e]
  refine ⟨rfl, by omega, by omega, fun f hf => ?_⟩
  rcases (by omega : f = 0 ∨ f = 1 ∨ f = 2) with rfl | rfl | rfl <;> omega
theorem FI.ne (h : FI B M) {k j : Nat} {v : Int32} (hk : k % 2 = 1 ∨ k < 6 ∨ 38 ≤ k) : FI B (u2 M k j v) := by
  refine ⟨fun i hi f hf => ?_, ?_⟩
  · rw [fl_ne (by omega)]; exact h.1 i hi f hf
  · rw [tot_ext (M := M) 16 (fun i hi f hf => fl_ne (by omega))]; exact h.2
theorem FI.set (h : FI B M) {i f : Nat} {v : Int32} (hi : i < 16) (hf : f < 3) (hv : 0 ≤ v.toInt) : FI (B - Fl M i f + v.toInt) (u2 M (6 + 2 * i) f v) := by
  refine ⟨fun i' hi' f' hf' => ?_, ?_⟩
  · by_cases e : i' = i ∧ f' = f
    · obtain ⟨rfl, rfl⟩ := e
      rw [fl_same]; exact hv
    · rw [fl_ne (by omega)]; exact h.1 i' hi' f' hf'
  · rw [tot_u2 hf 16 hi]
    have := h.2
    omega
/-- a fluid moves between cells, or up -/
theorem FI.mvs (h : FI B M) (hB : B ≤ 1000000) {i f k2 : Nat} {t al : Int32} (hi : i < 16) (hf : f < 3) (ha : 0 < al.toInt) (ht : 0 ≤ t.toInt) (hk : (∃ j, j < 16 ∧ j ≠ i ∧ k2 = 6 + 2 * j) ∨ 38 ≤ k2) : FI B (m_mvs i t al k2 f M) := by
  have hv := mv_ok hf (h.le hi hf).1 ha ht
  have hl := h.le hi hf
  have e1 : (M (6 + 2 * i) f - m_mv M i f t al).toInt = Fl M i f - (m_mv M i f t al).toInt := by
    unfold Fl at *
    exact isb (by omega) (by omega)
  have h1 : FI (B - (m_mv M i f t al).toInt) (u2 M (6 + 2 * i) f (M (6 + 2 * i) f - m_mv M i f t al)) := (h.set hi hf (by rw [e1]; omega)).up (by rw [e1]; omega)
  unfold m_mvs
  generalize u2 M (6 + 2 * i) f (M (6 + 2 * i) f - m_mv M i f t al) = N at h1
  rcases hk with ⟨j, hj, hne, rfl⟩ | hk
  · have hl2 := h1.le hj hf
    have e2 : (N (6 + 2 * j) f + m_mv M i f t al).toInt = Fl N j f + (m_mv M i f t al).toInt := by
      unfold Fl at *
      exact ia (by omega) (by omega)
    exact (h1.set hj hf (by rw [e2]; omega)).up (by rw [e2]; omega)
  · exact (h1.ne (by omega)).up (by omega)
theorem FI.moveOut (h : FI B M) (hB : B ≤ 1000000) {i k2 : Nat} {t : Int32} (hi : i < 16) (ht : 0 ≤ t.toInt) (hk : (∃ j, j < 16 ∧ j ≠ i ∧ k2 = 6 + 2 * j) ∨ 38 ≤ k2) : FI B (m_moveOut M i t k2) := by
  unfold m_moveOut
  split
  · rename_i ha
    have ha := Int32.lt_iff_toInt_lt.mp ha
    rw [z32] at ha
    have key : ∀ n, n ≤ 3 → FI B (fo (m_mvs i t (m_all M i) k2) n M) := by
      intro n
      induction n with
      | zero => intro _; exact h
      | succ n ih => intro hn; exact FI.mvs (ih (by omega)) hB hi (by omega) ha ht hk
    exact key 3 (Nat.le_refl 3)
  · exact h
end
