/-! a Told whole: its cells, and what they hold -/
section
variable {cy : Nat → ClassId} {w u : Nat → va_E} {o : Nat} {G T P : Mem}
theorem pw_out {a : Nat} (h : a < o ∨ o + 118 ≤ a) : pw cy w o G T P a = w a := by
  unfold pw gw hw
  rw [if_neg (by omega), if_neg (by omega), if_neg (by omega)]
theorem pw_ext (h : pw cy w o G T P = w) (he : ∀ a, o ≤ a → a < o + 118 → u a = w a) : pw cy u o G T P = u := by
  funext a
  by_cases hr : o ≤ a ∧ a < o + 118
  · rw [he a hr.1 hr.2]
    have := congrFun h a
    rw [← this]
    unfold pw gw hw
    simp only [if_pos hr]
  · rw [pw_out (by omega)]
theorem pw_pw : pw cy (pw cy w o G T P) o G T P = pw cy w o G T P := by
  funext a
  by_cases hr : o ≤ a ∧ a < o + 118
  · unfold pw gw hw
    simp only [if_pos hr]
  · rw [pw_out (by omega)]
end
/-- b the script, d the draws, wo the wells' rows, wr each well's row; A all its cells -/
def TW (cy : Nat → ClassId) (w : Nat → va_E) (A : Nat → Prop) (lo n t b d wo : Nat) (wr : Nat → Nat) (nd : Nat) (G T P : Mem) : Prop :=
  (w t = .inr (7, tF t b d wo (G 0 4))) ∧
  (pw cy w (t + 1) G T P = w) ∧
  (∃ r : Nat → Int32, w (t + 119) = .inl (cy 0, 16, .inl r)) ∧
  (∃ f : Nat → Option Nat, w (t + 120) = .inl (cy 6, 16, .inr (.inr (.inr (.inr f)))) ∧ ∀ i, i < 16 → ∃ (y : Nat) (r : Nat → Int32), f i = some y ∧ A y ∧ t + 119 < y ∧ w y = .inl (cy 0, 3, .inl r)) ∧
  (w (t + 137) = .inl (cy 7, 16, .inr (.inr (.inr (.inr fun i => if i < 16 then some (t + 138 + i) else none))))) ∧
  (∀ i, i < 16 → ∃ r : Nat → Int32, w (t + 138 + i) = .inl (cy 5, 2, .inl r) ∧ r 0 = G (5 + 2 * i) 2 ∧ r 1 = G (5 + 2 * i) 3) ∧
  (∃ f : Nat → Option Nat, w wo = .inl (cy 6, nd, .inr (.inr (.inr (.inr f)))) ∧ ∀ i, i < nd → f i = some (wr i)) ∧
  (A wo ∧ t + 154 ≤ wo) ∧
  (∀ i, i < nd → A (wr i) ∧ t + 157 ≤ wr i) ∧
  (∀ i j, i < nd → j < nd → wr i = wr j → i = j) ∧
  (∀ i, i < nd → ∃ r : Nat → Int32, w (wr i) = .inl (cy 0, 14, .inl r) ∧ r 0 = G (37 + 2 * i) 0 ∧ r 2 = G (37 + 2 * i) 2 ∧ r 3 = G (37 + 2 * i) 3 ∧ r 4 = P (103 + 2 * i) 0 ∧ r 13 = P (103 + 2 * i) 1) ∧
  (∃ r : Nat → Int32, w (t + 155) = .inl (cy 0, 3, .inl r) ∧ ∀ j, j < 3 → r j = G 3 j) ∧
  (∀ a, t ≤ a → a < t + 157 → A a) ∧
  (∀ a, A a → lo ≤ a ∧ a < lo + n)
section
variable {cy : Nat → ClassId} {w : Nat → va_E} {A : Nat → Prop} {lo n t b d wo nd : Nat} {wr : Nat → Nat} {G T P : Mem}
theorem TW.obj (h : TW cy w A lo n t b d wo wr nd G T P) : w t = .inr (7, tF t b d wo (G 0 4)) := h.1
theorem TW.pf (h : TW cy w A lo n t b d wo wr nd G T P) : pw cy w (t + 1) G T P = w := h.2.1
theorem TW.rooms (h : TW cy w A lo n t b d wo wr nd G T P) : ∃ r : Nat → Int32, w (t + 119) = .inl (cy 0, 16, .inl r) := h.2.2.1
theorem TW.has (h : TW cy w A lo n t b d wo wr nd G T P) : ∃ f : Nat → Option Nat, w (t + 120) = .inl (cy 6, 16, .inr (.inr (.inr (.inr f)))) ∧ ∀ i, i < 16 → ∃ (y : Nat) (r : Nat → Int32), f i = some y ∧ A y ∧ t + 119 < y ∧ w y = .inl (cy 0, 3, .inl r) := h.2.2.2.1
theorem TW.shut (h : TW cy w A lo n t b d wo wr nd G T P) : w (t + 137) = .inl (cy 7, 16, .inr (.inr (.inr (.inr fun i => if i < 16 then some (t + 138 + i) else none)))) := h.2.2.2.2.1
theorem TW.shutR (h : TW cy w A lo n t b d wo wr nd G T P) : ∀ i, i < 16 → ∃ r : Nat → Int32, w (t + 138 + i) = .inl (cy 5, 2, .inl r) ∧ r 0 = G (5 + 2 * i) 2 ∧ r 1 = G (5 + 2 * i) 3 := h.2.2.2.2.2.1
theorem TW.wells (h : TW cy w A lo n t b d wo wr nd G T P) : ∃ f : Nat → Option Nat, w wo = .inl (cy 6, nd, .inr (.inr (.inr (.inr f)))) ∧ ∀ i, i < nd → f i = some (wr i) := h.2.2.2.2.2.2.1
theorem TW.woA (h : TW cy w A lo n t b d wo wr nd G T P) : A wo ∧ t + 154 ≤ wo := h.2.2.2.2.2.2.2.1
theorem TW.wrA (h : TW cy w A lo n t b d wo wr nd G T P) : ∀ i, i < nd → A (wr i) ∧ t + 157 ≤ wr i := h.2.2.2.2.2.2.2.2.1
theorem TW.wrI (h : TW cy w A lo n t b d wo wr nd G T P) : ∀ i j, i < nd → j < nd → wr i = wr j → i = j := h.2.2.2.2.2.2.2.2.2.1
theorem TW.row (h : TW cy w A lo n t b d wo wr nd G T P) : ∀ i, i < nd → ∃ r : Nat → Int32, w (wr i) = .inl (cy 0, 14, .inl r) ∧ r 0 = G (37 + 2 * i) 0 ∧ r 2 = G (37 + 2 * i) 2 ∧ r 3 = G (37 + 2 * i) 3 ∧ r 4 = P (103 + 2 * i) 0 ∧ r 13 = P (103 + 2 * i) 1 := h.2.2.2.2.2.2.2.2.2.2.1
theorem TW.caps (h : TW cy w A lo n t b d wo wr nd G T P) : ∃ r : Nat → Int32, w (t + 155) = .inl (cy 0, 3, .inl r) ∧ ∀ j, j < 3 → r j = G 3 j := h.2.2.2.2.2.2.2.2.2.2.2.1
theorem TW.own (h : TW cy w A lo n t b d wo wr nd G T P) : ∀ a, t ≤ a → a < t + 157 → A a := h.2.2.2.2.2.2.2.2.2.2.2.2.1
theorem TW.inn (h : TW cy w A lo n t b d wo wr nd G T P) : ∀ a, A a → lo ≤ a ∧ a < lo + n := h.2.2.2.2.2.2.2.2.2.2.2.2.2
end
section
variable {cy : Nat → ClassId} {w u : Nat → va_E} {A : Nat → Prop} {lo n t b d d' wo nd : Nat} {wr : Nat → Nat} {G T P G' T' P' : Mem}
/-- what isn't its own stays -/
def Fr (A : Nat → Prop) (w u : Nat → va_E) : Prop := ∀ a, ¬ A a → u a = w a
theorem Fr.rf : Fr A w w := fun _ _ => rfl
theorem Fr.tr {v : Nat → va_E} (h : Fr A w u) (h' : Fr A u v) : Fr A w v := fun a ha => (h' a ha).trans (h a ha)
theorem TW.tb (h : TW cy w A lo n t b d wo wr nd G T P) : lo ≤ t ∧ t + 157 ≤ lo + n := ⟨(h.inn t (h.own t (by omega) (by omega))).1, by have := (h.inn (t + 156) (h.own _ (by omega) (by omega))).2; omega⟩
theorem TW.frame (h : TW cy w A lo n t b d wo wr nd G T P) (he : ∀ a, A a → u a = w a) : TW cy u A lo n t b d wo wr nd G T P := by
  have k : ∀ a, t ≤ a → a < t + 157 → u a = w a := fun a h1 h2 => he a (h.own a h1 h2)
  refine ⟨(k t (by omega) (by omega)).trans h.obj, pw_ext h.pf (fun a h1 h2 => k a (by omega) (by omega)), ?_, ?_, (k _ (by omega) (by omega)).trans h.shut, fun i hi => ?_, ?_, h.woA, h.wrA, h.wrI, fun i hi => ?_, ?_, h.own, h.inn⟩
  · obtain ⟨r, hr⟩ := h.rooms
    exact ⟨r, (k _ (by omega) (by omega)).trans hr⟩
  · obtain ⟨f, hf, hy⟩ := h.has
    refine ⟨f, (k _ (by omega) (by omega)).trans hf, fun i hi => ?_⟩
    obtain ⟨y, r, h1, h2, h3, h4⟩ := hy i hi
    exact ⟨y, r, h1, h2, h3, (he y h2).trans h4⟩
  · obtain ⟨r, hr⟩ := h.shutR i hi
    exact ⟨r, (k _ (by omega) (by omega)).trans hr.1, hr.2⟩
  · obtain ⟨f, hf, hy⟩ := h.wells
    exact ⟨f, (he wo h.woA.1).trans hf, hy⟩
  · obtain ⟨r, hr⟩ := h.row i hi
    exact ⟨r, (he _ (h.wrA i hi).1).trans hr.1, hr.2⟩
  · obtain ⟨r, hr⟩ := h.caps
    exact ⟨r, (k _ (by omega) (by omega)).trans hr.1, hr.2⟩
/-- ints changed, and its field -/
theorem TW.of (h : TW cy w A lo n t b d wo wr nd G T P) (ho : u t = .inr (7, tF t b d' wo (G' 0 4))) (hp : pw cy u (t + 1) G' T' P' = u)
    (hk : ∀ a, A a → t + 119 ≤ a → (∀ c N (f : Nat → Int32), w a ≠ .inl (c, N, .inl f)) → u a = w a) (hi : ∀ a c N (f : Nat → Int32), A a → t + 119 ≤ a → w a = .inl (c, N, .inl f) → ∃ f' : Nat → Int32, u a = .inl (c, N, .inl f'))
    (hs : ∀ i, i < 16 → ∃ r : Nat → Int32, u (t + 138 + i) = .inl (cy 5, 2, .inl r) ∧ r 0 = G' (5 + 2 * i) 2 ∧ r 1 = G' (5 + 2 * i) 3)
    (hr : ∀ i, i < nd → ∃ r : Nat → Int32, u (wr i) = .inl (cy 0, 14, .inl r) ∧ r 0 = G' (37 + 2 * i) 0 ∧ r 2 = G' (37 + 2 * i) 2 ∧ r 3 = G' (37 + 2 * i) 3 ∧ r 4 = P' (103 + 2 * i) 0 ∧ r 13 = P' (103 + 2 * i) 1)
    (hc : ∃ r : Nat → Int32, u (t + 155) = .inl (cy 0, 3, .inl r) ∧ ∀ j, j < 3 → r j = G' 3 j) : TW cy u A lo n t b d' wo wr nd G' T' P' := by
  refine ⟨ho, hp, ?_, ?_, (hk _ (h.own _ (by omega) (by omega)) (by omega) (fun c N f q => by rw [h.shut] at q; cases q)).trans h.shut, hs, ?_, h.woA, h.wrA, h.wrI, hr, hc, h.own, h.inn⟩
  · obtain ⟨r, hr⟩ := h.rooms
    exact hi _ _ _ _ (h.own _ (by omega) (by omega)) (by omega) hr
  · obtain ⟨f, hf, hy⟩ := h.has
    refine ⟨f, (hk _ (h.own _ (by omega) (by omega)) (by omega) (fun c N f q => by rw [hf] at q; cases q)).trans hf, fun i hi' => ?_⟩
    obtain ⟨y, r, h1, h2, h3, h4⟩ := hy i hi'
    obtain ⟨r', hr'⟩ := hi y _ _ _ h2 (by omega) h4
    exact ⟨y, r', h1, h2, h3, hr'⟩
  · obtain ⟨f, hf, hy⟩ := h.wells
    exact ⟨f, (hk _ h.woA.1 (by have := h.woA.2; omega) (fun c N f q => by rw [hf] at q; cases q)).trans hf, hy⟩
/-- its field alone -/
theorem TW.fld (h : TW cy w A lo n t b d wo wr nd G T P) (hG4 : G' 0 4 = G 0 4) (hG : ∀ i, i < 16 → G' (5 + 2 * i) 2 = G (5 + 2 * i) 2 ∧ G' (5 + 2 * i) 3 = G (5 + 2 * i) 3) (hW : ∀ i, i < nd → G' (37 + 2 * i) 0 = G (37 + 2 * i) 0 ∧ G' (37 + 2 * i) 2 = G (37 + 2 * i) 2 ∧ G' (37 + 2 * i) 3 = G (37 + 2 * i) 3 ∧ P' (103 + 2 * i) 0 = P (103 + 2 * i) 0 ∧ P' (103 + 2 * i) 1 = P (103 + 2 * i) 1) (hC : ∀ j, j < 3 → G' 3 j = G 3 j) : TW cy (pw cy w (t + 1) G' T' P') A lo n t b d wo wr nd G' T' P' := by
  refine h.of ((pw_out (by omega)).trans (by rw [hG4]; exact h.obj)) pw_pw (fun a _ h2 _ => pw_out (by omega)) (fun a c N f _ h2 q => ⟨f, (pw_out (by omega)).trans q⟩) (fun i hi => ?_) (fun i hi => ?_) ?_
  · obtain ⟨r, h1, h2, h3⟩ := h.shutR i hi
    exact ⟨r, (pw_out (by omega)).trans h1, h2.trans (hG i hi).1.symm, h3.trans (hG i hi).2.symm⟩
  · obtain ⟨r, h1, h2, h3, h4, h5, h6⟩ := h.row i hi
    have hw := hW i hi
    exact ⟨r, (pw_out (by have := (h.wrA i hi).2; omega)).trans h1, h2.trans hw.1.symm, h3.trans hw.2.1.symm, h4.trans hw.2.2.1.symm, h5.trans hw.2.2.2.1.symm, h6.trans hw.2.2.2.2.symm⟩
  · obtain ⟨r, h1, h2⟩ := h.caps
    exact ⟨r, (pw_out (by omega)).trans h1, fun j hj => (h2 j hj).trans (hC j hj).symm⟩
/-- its field, and one well's row -/
theorem TW.frow (h : TW cy w A lo n t b d wo wr nd G T P) {i0 : Nat} (h0 : i0 < nd) {r' : Nat → Int32} (hr' : r' 0 = G' (37 + 2 * i0) 0 ∧ r' 2 = G' (37 + 2 * i0) 2 ∧ r' 3 = G' (37 + 2 * i0) 3 ∧ r' 4 = P' (103 + 2 * i0) 0 ∧ r' 13 = P' (103 + 2 * i0) 1) (hG4 : G' 0 4 = G 0 4) (hG : ∀ i, i < 16 → G' (5 + 2 * i) 2 = G (5 + 2 * i) 2 ∧ G' (5 + 2 * i) 3 = G (5 + 2 * i) 3) (hW : ∀ i, i < nd → i ≠ i0 → G' (37 + 2 * i) 0 = G (37 + 2 * i) 0 ∧ G' (37 + 2 * i) 2 = G (37 + 2 * i) 2 ∧ G' (37 + 2 * i) 3 = G (37 + 2 * i) 3 ∧ P' (103 + 2 * i) 0 = P (103 + 2 * i) 0 ∧ P' (103 + 2 * i) 1 = P (103 + 2 * i) 1) (hC : ∀ j, j < 3 → G' 3 j = G 3 j) : TW cy (pw cy (va_up w (wr i0) (.inl (cy 0, 14, .inl r'))) (t + 1) G' T' P') A lo n t b d wo wr nd G' T' P' := by
  have hy := h.wrA i0 h0
  obtain ⟨r0, hr0, -⟩ := h.row i0 h0
  refine h.of ((pw_out (by omega)).trans ((xu_ne (by omega)).trans (by rw [hG4]; exact h.obj))) pw_pw (fun a _ h2 hn => (pw_out (by omega)).trans (xu_ne (fun q => hn (cy 0) 14 r0 (by rw [q]; exact hr0)))) (fun a c N f _ h2 q => ?_) (fun i hi => ?_) (fun i hi => ?_) ?_
  · rw [pw_out (by omega)]
    by_cases e : a = wr i0
    · subst e
      rw [hr0] at q
      cases q
      exact ⟨r', xu_same _ _ _⟩
    · exact ⟨f, (xu_ne e).trans q⟩
  · obtain ⟨r, h1, h2, h3⟩ := h.shutR i hi
    exact ⟨r, (pw_out (by omega)).trans ((xu_ne (by omega)).trans h1), h2.trans (hG i hi).1.symm, h3.trans (hG i hi).2.symm⟩
  · have hp : ∀ a, t + 157 ≤ a → pw cy (va_up w (wr i0) (.inl (cy 0, 14, .inl r'))) (t + 1) G' T' P' a = va_up w (wr i0) (.inl (cy 0, 14, .inl r')) a := fun a ha => pw_out (by omega)
    by_cases e : i = i0
    · subst e
      exact ⟨r', (hp _ hy.2).trans (xu_same _ _ _), hr'⟩
    · obtain ⟨r, h1, h2, h3, h4, h5, h6⟩ := h.row i hi
      have hw := hW i hi e
      exact ⟨r, (hp _ (h.wrA i hi).2).trans ((xu_ne (fun q => e (h.wrI i i0 hi h0 q))).trans h1), h2.trans hw.1.symm, h3.trans hw.2.1.symm, h4.trans hw.2.2.1.symm, h5.trans hw.2.2.2.1.symm, h6.trans hw.2.2.2.2.symm⟩
  · obtain ⟨r, h1, h2⟩ := h.caps
    exact ⟨r, (pw_out (by omega)).trans ((xu_ne (by omega)).trans h1), fun j hj => (h2 j hj).trans (hC j hj).symm⟩
theorem TW.fr_fld (h : TW cy w A lo n t b d wo wr nd G T P) : Fr A w (pw cy w (t + 1) G' T' P') := fun a ha => pw_out (by
  by_cases e : a < t + 1 ∨ t + 1 + 118 ≤ a
  · exact e
  · exact absurd (h.own a (by omega) (by omega)) ha)
theorem TW.fr_row (h : TW cy w A lo n t b d wo wr nd G T P) {i0 : Nat} (h0 : i0 < nd) {e : va_E} : Fr A w (pw cy (va_up w (wr i0) e) (t + 1) G' T' P') := fun a ha => (pw_out (by
  by_cases e : a < t + 1 ∨ t + 1 + 118 ≤ a
  · exact e
  · exact absurd (h.own a (by omega) (by omega)) ha)).trans (xu_ne (fun q => ha (by rw [q]; exact (h.wrA i0 h0).1)))
end
/-- an answer, and the run of cells behind it -/
abbrev QxT (D : va_G) (lo n : Nat) (X : Int32 → (Nat → va_E) → Prop) : Array Value → State → Outcome → State → Prop := va_Qi (fun (r : Int32) (u : Nat → va_E) => X r u) (fun u t => va_P D vwCl (rl lo n u) t.heap) (fun q : Nat => lo ≤ q)
section
variable {p : Program} {l : Launch} {e : Env} {R : Room} {s : State} {m : MethodId} {args : Array Value} {below : List Frame} {meth : Method} {c : Code} {H : Heap} {locs : List Loc} {cells slots : Nat} {Q : State → Prop}
variable {pc : Nat} {ls : Array Slot} {rest st0 : List Value} {a : Array Value} {D : va_G} {H0 : Heap} {lo n : Nat} {mc ms : Nat}
theorem x_callx {X : Int32 → (Nat → va_E) → Prop} (hr : va_Run p l e R s m args below meth c H locs cells slots mc ms (F0 m pc ls st0) rest (QxT D lo n X a) (fun q : Nat => lo ≤ q)) (hS : va_S (fun q : Nat => lo ≤ q) H0 H locs)
    (kk : ∀ (v : Int32) (u : Nat → va_E) (H1 : Heap) (locs1 : List Loc), X v u → va_P D vwCl (rl lo n u) H1 → va_S (fun q : Nat => lo ≤ q) H0 H1 locs1 → W p l e R s m args below meth c H1 locs1 (cells + mc) (slots + ms) Q (F0 m (pc + 3) ls (.int v :: rest))) : W p l e R s m args below meth c H locs cells slots Q (F0 m pc ls st0) :=
  va_calli hr hS (fun _ _ h => h) (fun _ h => h) fun r u t H1 locs1 ht hvm hw hB _ _ hS1 => kk r u H1 locs1 hw (by rw [← ht]; exact hB) hS1
end
/-- the pw-form of a Told's run -/
theorem TW.to {D : va_G} {cl : List vw_C} {H : Heap} {cy : Nat → ClassId} {w : Nat → va_E} {lo n o : Nat} {G T P : Mem} (hp : pw cy w o G T P = w) (hP : va_P D cl (rl lo n w) H) : va_P D cl (rl lo n (pw cy w o G T P)) H := by rw [hp]; exact hP
set_option maxRecDepth 100000 in
set_option maxHeartbeats 4000000 in
/-- Told.choke -/
theorem c_X7_choke (l : Launch) (D : va_G) (cy : Nat → ClassId) (lo n : Nat) (w : Nat → va_E) (b L : Nat) (xs : Nat → Int32) (A : Nat → Prop) (t d wo : Nat) (wr : Nat → Nat) (nd : Nat) (G T P : Mem) (hT : TW cy w A lo n t b d wo wr nd G T P) (hG : GI nd G) (i : Nat) (hi : i < nd) (x : Int32) (hx1 : 0 ≤ x) (hx2 : x ≤ 9) (hop : P (103 + 2 * i) 0 = 0) : Met l yX7_choke wsX7_choke ({ frames := 2, cells := 0, slots := 0, locals := 45 }) (PcT D cy lo n w b L xs [.ref t, .int (nI i), .int x]) (QxT D lo n (fun r u => r = 1 ∧ TW cy u A lo n t b d wo wr nd (u2 G (37 + 2 * i) 2 x) T P ∧ Fr A w u)) 0 0 (fun q : Nat => lo ≤ q) := by
  refine Met.ofW (cc := cX7_choke) (maxL := 4) (ret := (some .boolean)) (by decide) rfl ?_
  intro p e s m args below meth c s₁ B hml hv
  obtain ⟨rfl, hP, hK, hS, hX⟩ := x_entryT hv
  have hx := B.exec
  have hb := B.bytes
  have hr := B.returns
  have hts := atoms_spec (ws := wsX7_choke) B.pre
  have hown : s.vm.findClass RX7 = some m.cls := findClass_of_methodNamed B.named
  have iX7 : ∀ w ∈ u_ws RX7 TX7 13, w ∈ wsX7_choke := by decide +kernel
  have htb := hT.tb
  have hnd := hG.1
  have h6 : i < 6 := Nat.lt_of_lt_of_le hi hG.1
  have hwo := hT.inn wo hT.woA.1
  have hwr := hT.inn (wr i) (hT.wrA i hi).1
  have hwr2 := (hT.wrA i hi).2
  obtain ⟨f, hf, hfi⟩ := hT.wells
  obtain ⟨r, hr0, q0, q2, q3, q4, q13⟩ := hT.row i hi
  have hl := lv_entry ([.ref t, .int (nI i), .int x]) (n := 4) (Nat.le_of_ble_eq_true rfl)
  rw [lg_entry_eq]
  generalize (lg_sl ([.ref t, .int (nI i), .int x]) ++ List.replicate (4 - (lg_sl ([.ref t, .int (nI i), .int x])).length) Slot.unset).toArray = ls at hl ⊢
  have hl : lv_has ls 4 [(0, .ref t), (1, .int (nI i)), (2, .int x)] := hl
  refine lv_aload_n hx hb dX7_choke_0 rfl (lv_at hl 0 rfl) ?_
  refine x_get (ref := RX7) (C := RX7) (T := TX7) (N := 13) (ci := 7) (v := .ref wo) hx hb hts iX7 hown hK.1 hP (by omega) (by omega) hT.obj rfl 6 (by decide) (hts (.fieldLink RX7 31 "PoreFieldLaw$Told" "wells" "[[I") (by decide +kernel)) (fun _ h9 => h9) rfl dX7_choke_1 ?_
  refine lv_iload_n hx hb dX7_choke_4 rfl (lv_at hl 1 rfl) ?_
  refine x_aaldA hx hb hK.1 hP (by omega) (by omega) 6 hf rfl (cl_of_nI (i := i) rfl (by omega)) (hfi i hi) (vp_in_of_nI (i := i) rfl (by omega) (by omega)) dX7_choke_5 ?_
  refine lv_iconst (v := 2) hx hb dX7_choke_6 (by decide) ?_
  refine x_iald hx hb hK.1 hP (by omega) (by omega) 0 hr0 rfl (cl_of_nI (i := 2) rfl (by omega)) (vp_in_of_nI (i := 2) rfl (by omega) (by omega)) dX7_choke_7 ?_
  refine lv_istore_n (lv' := [(3, .int (r 2)), (0, .ref t), (1, .int (nI i)), (2, .int x)]) hx hb dX7_choke_8 rfl hl (by decide) rfl (fun ls hl => ?_)
  refine lv_aload_n hx hb dX7_choke_9 rfl (lv_at hl 1 rfl) ?_
  refine x_get (ref := RX7) (C := RX7) (T := TX7) (N := 13) (ci := 7) (v := .ref wo) hx hb hts iX7 hown hK.1 hP (by omega) (by omega) hT.obj rfl 6 (by decide) (hts (.fieldLink RX7 31 "PoreFieldLaw$Told" "wells" "[[I") (by decide +kernel)) (fun _ h9 => h9) rfl dX7_choke_10 ?_
  refine lv_iload_n hx hb dX7_choke_13 rfl (lv_at hl 2 rfl) ?_
  refine x_aaldA hx hb hK.1 hP (by omega) (by omega) 6 hf rfl (cl_of_nI (i := i) rfl (by omega)) (hfi i hi) (vp_in_of_nI (i := i) rfl (by omega) (by omega)) dX7_choke_14 ?_
  refine lv_iconst (v := 2) hx hb dX7_choke_15 (by decide) ?_
  refine lv_iload_n hx hb dX7_choke_16 rfl (lv_at hl 3 rfl) ?_
  refine x_iast hx hb hK.1 hP hS (by omega) (by omega) 0 hr0 rfl (cl_of_nI (i := 2) rfl (by omega)) (vp_in_of_nI (i := 2) rfl (by omega) (by omega)) dX7_choke_17 (fun H locs hP hS => ?_)
  refine lv_aload_n hx hb dX7_choke_18 rfl (lv_at hl 1 rfl) ?_
  refine x_get (ref := RX7) (C := RX7) (T := TX7) (N := 13) (ci := 7) (v := .ref (t + 1)) hx hb hts iX7 hown hK.1 hP (by omega) (by omega) ((xu_ne (by omega)).trans hT.obj) rfl 0 (by decide) (hts (.fieldLink RX7 10 "PoreFieldLaw$Told" "m" "LPoreField;") (by decide +kernel)) (fun _ h9 => h9) rfl dX7_choke_19 ?_
  refine lv_iload_n hx hb dX7_choke_22 rfl (lv_at hl 2 rfl) ?_
  refine lv_iload_n hx hb dX7_choke_23 rfl (lv_at hl 3 rfl) ?_
  have hpf : pw cy (va_up w (wr i) (.inl (cy 0, 14, .inl (upd r 2 x)))) (t + 1) G T P = va_up w (wr i) (.inl (cy 0, 14, .inl (upd r 2 x))) := pw_ext hT.pf (fun a h1 h2 => xu_ne (by omega))
  have hP := TW.to hpf hP
  refine x_calli (va_runV (As := [.int (nI i), .int x]) (rest := []) ⟨hx, hb, hml, hown, hts⟩ (c_X6_choke l D cy lo n (va_up w (wr i) (.inl (cy 0, 14, .inl (upd r 2 x)))) (t + 1) G T P (by omega) (by omega) nd hG i hi x hx1 hx2 hop) (cwV 2 hts gX7_choke_X6_choke rfl rfl rfl (by decide +kernel) ⟨Nat.le_of_ble_eq_true rfl, Nat.le_of_ble_eq_true rfl⟩) (preV hP hK (x_recv (ci := 6) (q := (RX6, TX6, 11)) hK.1 hP (by omega) (by omega) rfl ((gw_out (by omega)).trans ((gw_out (by omega)).trans hw_0)))) rfl rfl hl.1 rfl (lv_room (Nat.le_of_ble_eq_true rfl)) dX7_choke_24 ⟨Nat.le_of_ble_eq_true rfl, Nat.le_of_ble_eq_true rfl⟩) hS (fun H locs hP hS => ?_)
  refine lv_iload_n hx hb dX7_choke_27 rfl (lv_at hl 0 rfl) ?_
  refine lv_icmp_ne (tgt := 35) hx hb dX7_choke_28 (by decide) (fun h1 => absurd q2.symm h1) (fun h1 => ?_)
  refine lv_iconst (v := 1) hx hb dX7_choke_31 (by decide) ?_
  refine lv_goto (tgt := 36) hx hb dX7_choke_32 (by decide) ?_
  refine W.zret (v := 1) hx hb hr rfl (fun tE ht hW => ⟨⟨_, _, rfl, ⟨rfl, hT.frow hi (r' := upd r 2 x) ?_ (u2_ne (by omega)) (fun k hk => ⟨u2_ne (by omega), u2_ne (by omega)⟩) (fun k hk hne => ⟨u2_ne (by omega), u2_ne (by omega), u2_ne (by omega), rfl, rfl⟩) (fun j hj => u2_ne (by omega)), hT.fr_row hi⟩, x_at ht hP⟩, hS.F ht⟩) hS.2.2 dX7_choke_36
  rw [u2_ne (by omega), u2_same, u2_ne (by omega)]
  exact ⟨q0, rfl, q3, q4, q13⟩
