/-! a run of cells, and what is known of each; int memories -/
section
/-- the run of n cells from lo on, each with what w says of it -/
def rl (lo n : Nat) (w : Nat → va_E) : va_W := (List.range n).map fun k => (lo + k, w (lo + k))
theorem rl_at {lo n a : Nat} {w : Nat → va_E} (h1 : lo ≤ a) (h2 : a < lo + n) : (rl lo n w)[a - lo]? = some (a, w a) := by
  unfold rl
  rw [List.getElem?_map, List.getElem?_range (by omega)]
  show some (lo + (a - lo), w (lo + (a - lo))) = _
  rw [show lo + (a - lo) = a by omega]
theorem rl_get {lo n k : Nat} {w : Nat → va_E} {q : Nat × va_E} (h : (rl lo n w)[k]? = some q) : k < n ∧ q = (lo + k, w (lo + k)) := by
  unfold rl at h
  rw [List.getElem?_map] at h
  rcases Nat.lt_or_ge k n with hk | hk
  · rw [List.getElem?_range hk] at h
    exact ⟨hk, (Option.some.inj h).symm⟩
  · rw [List.getElem?_eq_none (by simpa using hk)] at h
    cases h
theorem rl_len (lo n : Nat) (w : Nat → va_E) : (rl lo n w).length = n := by simp [rl]
theorem rl_ext {lo n : Nat} {w w' : Nat → va_E} (h : ∀ a, lo ≤ a → a < lo + n → w a = w' a) : rl lo n w = rl lo n w' := by
  unfold rl
  refine List.map_congr_left fun k hk => ?_
  rw [h (lo + k) (by omega) (by have := List.mem_range.mp hk; omega)]
theorem rl_set {lo n a : Nat} {w : Nat → va_E} (e : va_E) (h1 : lo ≤ a) (h2 : a < lo + n) : (rl lo n w).set (a - lo) (a, e) = rl lo n (va_up w a e) := by
  refine List.ext_getElem? fun i => ?_
  rw [List.getElem?_set, rl_len]
  unfold rl
  rw [List.getElem?_map, List.getElem?_map]
  rcases Nat.lt_or_ge i n with hi | hi
  · rw [List.getElem?_range hi]
    by_cases hx : a - lo = i
    · rw [if_pos hx, if_pos (by omega)]
      show _ = some (lo + i, va_up w a e (lo + i))
      rw [show lo + i = a by omega]
      simp [va_up]
    · rw [if_neg hx]
      show some (lo + i, w (lo + i)) = some (lo + i, va_up w a e (lo + i))
      rw [show va_up w a e (lo + i) = w (lo + i) by unfold va_up; rw [if_neg (by omega)]]
  · rw [List.getElem?_eq_none (by simpa using hi)]
    by_cases hx : a - lo = i
    · omega
    · rw [if_neg hx]
      rfl
theorem rl_D (lo n : Nat) (w : Nat → va_E) : va_D (fun q : Nat => lo ≤ q) (rl lo n w) := by
  refine ⟨fun i j p q hp hq h => ?_, fun k q hk => ?_⟩
  · obtain ⟨-, rfl⟩ := rl_get hp
    obtain ⟨-, rfl⟩ := rl_get hq
    have : lo + i = lo + j := h
    omega
  · obtain ⟨-, rfl⟩ := rl_get hk
    exact Nat.le_add_right lo k
theorem rl_P {D : va_G} {cl : List vw_C} {lo n : Nat} {w : Nat → va_E} {H : Heap} (h : ∀ a, lo ≤ a → a < lo + n → va_at D cl (a, w a) H) : va_P D cl (rl lo n w) H := by
  intro k q hk
  obtain ⟨hk', rfl⟩ := rl_get hk
  exact h _ (by omega) (by omega)
theorem rl_one {D : va_G} {cl : List vw_C} {lo n a : Nat} {w : Nat → va_E} {H : Heap} (h : va_P D cl (rl lo n w) H) (h1 : lo ≤ a) (h2 : a < lo + n) : va_at D cl (a, w a) H := h _ _ (rl_at h1 h2)
theorem xu_same {α : Type} (w : Nat → α) (a : Nat) (e : α) : va_up w a e a = e := by simp [va_up]
theorem xu_ne {α : Type} {w : Nat → α} {a b : Nat} {e : α} (h : b ≠ a) : va_up w a e b = w b := by simp [va_up, h]
/-- a memory of ints: a place, a part of it -/
abbrev Mem : Type := Nat → Nat → Int32
def u2 (M : Mem) (k j : Nat) (v : Int32) : Mem := fun a b => if a = k ∧ b = j then v else M a b
def sr (M : Mem) (k : Nat) (r : Nat → Int32) : Mem := fun a b => if a = k then r b else M a b
theorem u2_same (M : Mem) (k j : Nat) (v : Int32) : u2 M k j v k j = v := by simp [u2]
theorem u2_ne {M : Mem} {k j a b : Nat} {v : Int32} (h : ¬ (a = k ∧ b = j)) : u2 M k j v a b = M a b := by unfold u2; rw [if_neg h]
theorem u2_k {M : Mem} {k j a : Nat} {v : Int32} (h : a ≠ k) : u2 M k j v a = M a := by funext b; exact u2_ne (fun q => h q.1)
theorem sr_same (M : Mem) (k : Nat) (r : Nat → Int32) : sr M k r k = r := by funext b; simp [sr]
theorem sr_ne {M : Mem} {k a : Nat} {r : Nat → Int32} (h : a ≠ k) : sr M k r a = M a := by funext b; simp [sr, h]
theorem u2_row (M : Mem) (k j : Nat) (v : Int32) : u2 M k j v k = upd (M k) j v := by funext b; simp [u2, upd]
theorem sr_upd (M : Mem) (k j : Nat) (v : Int32) : sr M k (upd (M k) j v) = u2 M k j v := by
  funext a b
  by_cases h : a = k
  · subst h
    simp [sr, u2, upd]
  · simp [sr, u2, h]
/-- f 0, then f 1, .. f (n - 1) -/
def fo {α : Type} (f : Nat → α → α) : Nat → α → α
  | 0, x => x
  | n + 1, x => f n (fo f n x)
abbrev jmin (x y : Int32) : Int32 := if y < x then y else x
abbrev jmax (x y : Int32) : Int32 := if x < y then y else x
abbrev jminl (x y : Int64) : Int64 := if y < x then y else x
theorem br_le {x y : Int32} {a b : Nat} (hx : x = nI a) (hy : y = nI b) (ha : a < 2 ^ 31) (hb : b < 2 ^ 31) : x ≤ y ↔ a ≤ b := by subst hx; subst hy; exact nI_leI ha hb
theorem br_lt {x y : Int32} {a b : Nat} (hx : x = nI a) (hy : y = nI b) (ha : a < 2 ^ 31) (hb : b < 2 ^ 31) : x < y ↔ a < b := by subst hx; subst hy; exact nI_ltI ha hb
theorem br_eq {x y : Int32} {a b : Nat} (hx : x = nI a) (hy : y = nI b) (ha : a < 2 ^ 31) (hb : b < 2 ^ 31) : x = y ↔ a = b := by subst hx; subst hy; exact nI_eq ha hb
theorem nar_z {x : Int32} (h : x = 0 ∨ x = 1) : narrow .boolean (.int x) = .int x := by rcases h with rfl | rfl <;> rfl
theorem fit_z {x : Int32} (h : x = 0 ∨ x = 1) : fits .boolean (.int x) = true := by rcases h with rfl | rfl <;> rfl
theorem vp_in_of_nI {x : Int32} {i N : Nat} (h : x = nI i) (hi : i < N) (hN : N < 2 ^ 31) : vp_in x N := by rw [h]; exact vp_in_nI hi hN
theorem cl_of_nI {x : Int32} {i : Nat} (h : x = nI i) (hi : i < 2 ^ 31) : x.toNatClampNeg = i := by rw [h]; exact nI_clamp hi
end
/-! the kit's rows over one run of cells -/
section
variable {p : Program} {l : Launch} {e : Env} {R : Room} {s : State} {m : MethodId} {args : Array Value} {below : List Frame} {meth : Method} {c : Code} {H : Heap} {locs : List Loc} {cells slots : Nat} {Q : State → Prop}
variable {cc : ByteArray} {pc : Nat} {ls : Array Slot} {rest : List Value} {a : Nat} {D : va_G} {cl : List vw_C} {tys : List (ClassId × FieldType)} {H0 : Heap} {lo n : Nat} {w : Nat → va_E}
theorem x_get (hexec : p.tables.exec = Jvm.exec) (hb : c.code = cc) {own ref C : String} {T : u_T} {N ci index : Nat} {Ts : List Cond} (hts : ∀ w ∈ Ts, w.before args s = true) (hin : ∀ w ∈ u_ws C T N, w ∈ Ts) (hown : s.vm.findClass own = some m.cls) (hK : va_K D cl tys s) (hP : va_P D cl (rl lo n w) H) (h1 : lo ≤ a) (h2 : a < lo + n) {fs : List Value} (he : w a = .inr (ci, fs)) (hc : cl[ci]? = some (C, T, N)) (k : Nat) (hk : k < N) (hlink : (Cond.fieldLink own index ref (T k).2.1 (T k).2.2.1).before args s = true) (hsame : ∀ x, s.fieldFound? (T k).1 (T k).2.1 (T k).2.2.1 = some x → s.fieldFound? ref (T k).2.1 (T k).2.2.1 = some x) {v : Value} (hv : fs[k]? = some v) (hdg : decode cc pc = .ok (.getfield index, 3))
    (kk : W p l e R s m args below meth c H locs cells slots Q (F0 m (pc + 3) ls (v :: rest))) : W p l e R s m args below meth c H locs cells slots Q (F0 m pc ls (.ref a :: rest)) :=
  va_get hexec hb hts hin hown hK hP (a - lo) (by rw [rl_at h1 h2, he]) hc k hk hlink hsame hv hdg kk
theorem x_put (hexec : p.tables.exec = Jvm.exec) (hb : c.code = cc) {own ref C : String} {T : u_T} {N ci index : Nat} {Ts : List Cond} (hts : ∀ w ∈ Ts, w.before args s = true) (hin : ∀ w ∈ u_ws C T N, w ∈ Ts) (ty0 : Nat → FieldType) (hty : ∀ k, k < N → parseFieldDescriptor (T k).2.2.1 = some (ty0 k)) (hnm : ∀ a, a < N → ∀ b, b < N → a ≠ b → (T a).2.1 ≠ (T b).2.1) (hown : s.vm.findClass own = some m.cls) (hK : va_K D cl tys s) (hP : va_P D cl (rl lo n w) H) (hS : va_S (fun q : Nat => lo ≤ q) H0 H locs) (h1 : lo ≤ a) (h2 : a < lo + n) {fs : List Value} (he : w a = .inr (ci, fs)) (hc : cl[ci]? = some (C, T, N)) (k : Nat) (hk : k < N) (hlink : (Cond.fieldLink own index ref (T k).2.1 (T k).2.2.1).before args s = true) (hsame : ∀ x, s.fieldFound? (T k).1 (T k).2.1 (T k).2.2.1 = some x → s.fieldFound? ref (T k).2.1 (T k).2.2.1 = some x) (hfin : (T k).2.2.2 = false) {ty : FieldType} {v : Value} (hd : parseFieldDescriptor (T k).2.2.1 = some ty) (hn : narrow ty v = v) (hfit : fits ty v = true) (hl : k < fs.length)
    (hdg : decode cc pc = .ok (.putfield index, 3)) (kk : ∀ (H1 : Heap) (locs1 : List Loc), va_P D cl (rl lo n (va_up w a (.inr (ci, fs.set k v)))) H1 → va_S (fun q : Nat => lo ≤ q) H0 H1 locs1 → W p l e R s m args below meth c H1 locs1 cells slots Q (F0 m (pc + 3) ls rest)) : W p l e R s m args below meth c H locs cells slots Q (F0 m pc ls (v :: .ref a :: rest)) :=
  va_put hexec hb hts hin ty0 hty hnm hown hK hP (rl_D lo n w) hS (a - lo) (by rw [rl_at h1 h2, he]) hc k hk hlink hsame hfin hd hn hfit hl hdg fun H1 locs1 hP _ hS => kk H1 locs1 (by rw [rl_set _ h1 h2] at hP; exact hP) hS
theorem x_putF (hexec : p.tables.exec = Jvm.exec) (hb : c.code = cc) {own ref C : String} {T : u_T} {N ci index : Nat} {Ts : List Cond} (hts : ∀ w ∈ Ts, w.before args s = true) (hin : ∀ w ∈ u_ws C T N, w ∈ Ts) (ty0 : Nat → FieldType) (hty : ∀ k, k < N → parseFieldDescriptor (T k).2.2.1 = some (ty0 k)) (hnm : ∀ a, a < N → ∀ b, b < N → a ≠ b → (T a).2.1 ≠ (T b).2.1) (hown : s.vm.findClass own = some m.cls) (hK : va_K D cl tys s) (hP : va_P D cl (rl lo n w) H) (hS : va_S (fun q : Nat => lo ≤ q) H0 H locs) (h1 : lo ≤ a) (h2 : a < lo + n) {fs : List Value} (he : w a = .inr (ci, fs)) (hc : cl[ci]? = some (C, T, N)) (k : Nat) (hk : k < N) (hlink : (Cond.fieldLink own index ref (T k).2.1 (T k).2.2.1).before args s = true) (hsame : ∀ x, s.fieldFound? (T k).1 (T k).2.1 (T k).2.2.1 = some x → s.fieldFound? ref (T k).2.1 (T k).2.2.1 = some x) (hfin : (T k).2.2.2 = true) (hin2 : meth.name = "<init>") (hdecl : (T k).1 = own) {ty : FieldType} {v : Value} (hd : parseFieldDescriptor (T k).2.2.1 = some ty) (hn : narrow ty v = v) (hfit : fits ty v = true) (hl : k < fs.length)
    (hdg : decode cc pc = .ok (.putfield index, 3)) (kk : ∀ (H1 : Heap) (locs1 : List Loc), va_P D cl (rl lo n (va_up w a (.inr (ci, fs.set k v)))) H1 → va_S (fun q : Nat => lo ≤ q) H0 H1 locs1 → W p l e R s m args below meth c H1 locs1 cells slots Q (F0 m (pc + 3) ls rest)) : W p l e R s m args below meth c H locs cells slots Q (F0 m pc ls (v :: .ref a :: rest)) :=
  va_putF hexec hb hts hin ty0 hty hnm hown hK hP (rl_D lo n w) hS (a - lo) (by rw [rl_at h1 h2, he]) hc k hk hlink hsame hfin hin2 hdecl hd hn hfit hl hdg fun H1 locs1 hP _ hS => kk H1 locs1 (by rw [rl_set _ h1 h2] at hP; exact hP) hS
theorem x_iald (hexec : p.tables.exec = Jvm.exec) (hb : c.code = cc) (hK : va_K D cl tys s) (hP : va_P D cl (rl lo n w) H) (h1 : lo ≤ a) (h2 : a < lo + n) (t0 : Nat) {cA : ClassId} {N : Nat} {f : Nat → Int32} (ha : w a = .inl (cA, N, .inl f)) (ht : tys[t0]? = some (cA, .int)) {x : Int32} {i : Nat} (hi : x.toNatClampNeg = i) (hin : vp_in x N) (hdg : decode cc pc = .ok (.iaload, 1))
    (kk : W p l e R s m args below meth c H locs cells slots Q (F0 m (pc + 1) ls (.int (f i) :: rest))) : W p l e R s m args below meth c H locs cells slots Q (F0 m pc ls (.int x :: .ref a :: rest)) := by
  subst hi
  exact va_iald hexec hb hK hP (a - lo) t0 (by rw [rl_at h1 h2, ha]) ht hin hdg kk
theorem x_iast (hexec : p.tables.exec = Jvm.exec) (hb : c.code = cc) (hK : va_K D cl tys s) (hP : va_P D cl (rl lo n w) H) (hS : va_S (fun q : Nat => lo ≤ q) H0 H locs) (h1 : lo ≤ a) (h2 : a < lo + n) (t0 : Nat) {cA : ClassId} {N : Nat} {f : Nat → Int32} (ha : w a = .inl (cA, N, .inl f)) (ht : tys[t0]? = some (cA, .int)) {x v : Int32} {i : Nat} (hi : x.toNatClampNeg = i) (hin : vp_in x N) (hdg : decode cc pc = .ok (.iastore, 1))
    (kk : ∀ (H1 : Heap) (locs1 : List Loc), va_P D cl (rl lo n (va_up w a (.inl (cA, N, .inl (upd f i v))))) H1 → va_S (fun q : Nat => lo ≤ q) H0 H1 locs1 → W p l e R s m args below meth c H1 locs1 cells slots Q (F0 m (pc + 1) ls rest)) : W p l e R s m args below meth c H locs cells slots Q (F0 m pc ls (.int v :: .int x :: .ref a :: rest)) := by
  subst hi
  exact va_iast hexec hb hK hP (rl_D lo n w) hS (a - lo) t0 (by rw [rl_at h1 h2, ha]) ht hin hdg fun H1 locs1 hP _ hS => kk H1 locs1 (by rw [rl_set _ h1 h2] at hP; exact hP) hS
theorem x_aald (hexec : p.tables.exec = Jvm.exec) (hb : c.code = cc) (hK : va_K D cl tys s) (hP : va_P D cl (rl lo n w) H) (h1 : lo ≤ a) (h2 : a < lo + n) (t0 : Nat) {cA : ClassId} {C : String} {N : Nat} {f : Nat → Option Nat} (ha : w a = .inl (cA, N, .inr (.inr (.inr (.inr f))))) (ht : tys[t0]? = some (cA, .object C)) {x : Int32} {i b : Nat} (hi : x.toNatClampNeg = i) (hf : f i = some b) (hin : vp_in x N) (hdg : decode cc pc = .ok (.aaload, 1))
    (kk : W p l e R s m args below meth c H locs cells slots Q (F0 m (pc + 1) ls (.ref b :: rest))) : W p l e R s m args below meth c H locs cells slots Q (F0 m pc ls (.int x :: .ref a :: rest)) := by
  subst hi
  refine va_aldq hexec hb hK hP (a - lo) t0 (by rw [rl_at h1 h2, ha]) ht hin hdg ?_
  rw [hf]
  exact kk
theorem x_copyi (hexec : p.tables.exec = Jvm.exec) (hb : c.code = cc) (hml : c.maxLocals = ls.size) {own : String} {index : Nat} (hown : s.vm.findClass own = some m.cls) (hlink : (Cond.methodLink own index arraycopyName).before args s = true) (hnat : (Cond.native arraycopyName).before args s = true) (hstat : (Cond.static arraycopyName).before args s = true) (hini : (Cond.initialized "java/lang/System").before args s = true)
    (hK : va_K D cl tys s) (hP : va_P D cl (rl lo n w) H) (hS : va_S (fun q : Nat => lo ≤ q) H0 H locs) (t0 : Nat) {b : Nat} (h1 : lo ≤ a) (h2 : a < lo + n) (h3 : lo ≤ b) (h4 : b < lo + n) {cA : ClassId} {N0 N1 : Nat} {f g : Nat → Int32} (ha : w a = .inl (cA, N0, .inl f)) (hb2 : w b = .inl (cA, N1, .inl g)) (ht : tys[t0]? = some (cA, .int)) {k : Int32} {k' : Nat} (hk0 : ¬ k < 0) (hk : k.toNatClampNeg = k') (hk1 : k' ≤ N0) (hk2 : k' ≤ N1)
    (hframes : 1 ≤ R.frames) (hlocals : (rest.map fun v => v.category).sum + (nativeFrameWords "java/lang/System" "arraycopy" 5 + 11) ≤ R.locals) (hdg : decode cc pc = .ok (.invokestatic index, 3))
    (kk : ∀ (H1 : Heap) (locs1 : List Loc), va_P D cl (rl lo n (va_up w b (.inl (cA, N1, .inl (va_cpy f g 0 0 k'))))) H1 → va_S (fun q : Nat => lo ≤ q) H0 H1 locs1 → W p l e R s m args below meth c H1 locs1 cells slots Q (F0 m (pc + 3) ls rest)) : W p l e R s m args below meth c H locs cells slots Q (F0 m pc ls (.int k :: .int 0 :: .ref b :: .int 0 :: .ref a :: rest)) := by
  subst hk
  exact va_copyi hexec hb hml hown hlink hnat hstat hini hK hP (rl_D lo n w) hS (a - lo) (b - lo) t0 t0 (by rw [rl_at h1 h2, ha]) (by rw [rl_at h3 h4, hb2]) ht ht rfl (by decide) (by decide) hk0 (by show 0 + _ ≤ _; omega) (by show 0 + _ ≤ _; omega) (fun _ _ => rfl) hframes hlocals hdg fun H1 locs1 hP _ hS => kk H1 locs1 (by rw [rl_set _ h3 h4] at hP; exact hP) hS
/-- the heap has no more cells than have been made -/
theorem x_size {g : JFrame} (kk : H.size ≤ s.heap.size + cells → W p l e R s m args below meth c H locs cells slots Q g) : W p l e R s m args below meth c H locs cells slots Q g :=
  fun T hT X => kk (by rw [← hT]; exact X.same.2.2.1) T hT X
theorem rl_push (lo n : Nat) (w : Nat → va_E) (x : va_E) : rl lo n w ++ [(lo + n, x)] = rl lo (n + 1) (va_up w (lo + n) x) := by
  unfold rl
  rw [List.range_succ, List.map_append]
  congr 1
  · refine List.map_congr_left fun k hk => ?_
    rw [xu_ne (by have := List.mem_range.mp hk; omega)]
  · simp [va_up]
theorem x_q {lo n q : Nat} {w : Nat → va_E} {x : va_E} {H1 : Heap} (hz : H1.size ≤ lo + n + 1) (hP : va_P D cl (rl lo n w ++ [(q, x)]) H1) (hD : va_D (fun q : Nat => lo ≤ q) (rl lo n w ++ [(q, x)])) : q = lo + n := by
  have hi : (rl lo n w ++ [(q, x)])[n]? = some (q, x) := by
    rw [List.getElem?_append_right (by rw [rl_len]; exact Nat.le_refl n), rl_len, Nat.sub_self]
    rfl
  have h1 : q < H1.size := (hP n _ hi).lt
  have h2 : lo ≤ q := hD.2 n _ hi
  rcases Nat.lt_or_ge q (lo + n) with h | h
  · have hj : (rl lo n w ++ [(q, x)])[q - lo]? = some (q, w q) := by
      rw [List.getElem?_append_left (by rw [rl_len]; omega)]
      exact rl_at h2 h
    have := hD.1 n (q - lo) _ _ hi hj rfl
    omega
  · omega
theorem x_new (hexec : p.tables.exec = Jvm.exec) (hb : c.code = cc) {own C : String} {T : u_T} {N ci index : Nat} {Ts : List Cond} (hts : ∀ w ∈ Ts, w.before args s = true) (hin : ∀ w ∈ u_ws C T N, w ∈ Ts) (ty : Nat → FieldType) (hty : ∀ k, k < N → parseFieldDescriptor (T k).2.2.1 = some (ty k)) (hown : s.vm.findClass own = some m.cls) (hcl : (Cond.classLink own index C).before args s = true) (hinst : (Cond.instantiable C N).before args s = true) (hini : (Cond.initialized C).before args s = true)
    (hK : va_K D cl tys s) (hP : va_P D cl (rl lo n w) H) (hS : va_S (fun q : Nat => lo ≤ q) H0 H locs) (hlo : lo ≤ H0.size) (hz : s.heap.size + cells = lo + n) (hc : cl[ci]? = some (C, T, N)) {fs : List Value} (hfs : ∀ j, j < N → defaultValue (ty j) = vp_V fs j) (hcells : cells + 1 ≤ R.cells) (hslots : slots + N ≤ R.slots) (hdg : decode cc pc = .ok (.new index, 3))
    (kk : ∀ (H1 : Heap), va_P D cl (rl lo (n + 1) (va_up w (lo + n) (.inr (ci, fs)))) H1 → va_S (fun q : Nat => lo ≤ q) H0 H1 locs →
      W p l e R s m args below meth c H1 locs (cells + 1) (slots + N) Q (F0 m (pc + 3) ls (.ref (lo + n) :: rest))) : W p l e R s m args below meth c H locs cells slots Q (F0 m pc ls rest) := by
  refine va_new hexec hb hts hin ty hty hown hcl hinst hini hK hP (rl_D lo n w) hS (fun q h => Nat.le_trans hlo h) hc hfs hcells hslots hdg fun q H1 hP1 hD1 hS1 => ?_
  refine x_size fun hz1 => ?_
  obtain rfl := x_q (by omega) hP1 hD1
  rw [rl_push] at hP1
  exact kk H1 hP1 hS1
theorem x_newi (hexec : p.tables.exec = Jvm.exec) (hb : c.code = cc) (harr : (Cond.arrayClass (newarray.typeOf .int)).before args s = true) (hK : va_K D cl tys s) (hP : va_P D cl (rl lo n w) H) (hS : va_S (fun q : Nat => lo ≤ q) H0 H locs) (hlo : lo ≤ H0.size) (hz : s.heap.size + cells = lo + n)
    {k : Int32} {N : Nat} (t0 : Nat) {cA : ClassId} (ht : tys[t0]? = some (cA, .int)) (hn : ¬ k < 0) (hN : k.toNatClampNeg = N) (hbytes : N ≤ 65536) (hcells : cells + 1 ≤ R.cells) (hslots : slots + N ≤ R.slots) (hdg : decode cc pc = .ok (.newarray .int, 2))
    (kk : ∀ (H1 : Heap), va_P D cl (rl lo (n + 1) (va_up w (lo + n) (.inl (cA, N, .inl (fun _ => 0))))) H1 → va_S (fun q : Nat => lo ≤ q) H0 H1 locs →
      W p l e R s m args below meth c H1 locs (cells + 1) (slots + N) Q (F0 m (pc + 2) ls (.ref (lo + n) :: rest))) : W p l e R s m args below meth c H locs cells slots Q (F0 m pc ls (.int k :: rest)) := by
  refine va_newa (atype := .int) (ty := .int) (a0 := (N, .inl (fun _ => 0))) hexec hb harr rfl hK hP (rl_D lo n w) hS (fun q h => Nat.le_trans hlo h) (fun _ => rfl) hn hN (by show N * 4 ≤ _; omega) hcells hslots hdg fun q cB H1 hK1 hP1 hD1 hS1 => ?_
  refine x_size fun hz1 => ?_
  obtain rfl := x_q (by omega) hP1 hD1
  have hcB : cB = cA := by
    have h1 := (hK1.2 tys.length (cB, .int) (by simp)).2
    have h2 := (hK.2 t0 _ ht).2
    exact Option.some.inj (Eq.trans (Eq.symm h1) h2)
  subst hcB
  rw [rl_push] at hP1
  exact kk H1 hP1 hS1
theorem x_newq (hexec : p.tables.exec = Jvm.exec) (hb : c.code = cc) {own C : String} {index : Nat} (hown : s.vm.findClass own = some m.cls) (hclink : (Cond.classLink own index C).before args s = true) (hover : va_AO C s) (hK : va_K D cl tys s) (hP : va_P D cl (rl lo n w) H) (hS : va_S (fun q : Nat => lo ≤ q) H0 H locs) (hlo : lo ≤ H0.size) (hz : s.heap.size + cells = lo + n)
    {k : Int32} {N : Nat} (t0 : Nat) {cA : ClassId} (ht : tys[t0]? = some (cA, .object C)) (hn : ¬ k < 0) (hN : k.toNatClampNeg = N) (hbytes : N ≤ 65536) (hcells : cells + 1 ≤ R.cells) (hslots : slots + N ≤ R.slots) (hdg : decode cc pc = .ok (.anewarray index, 3))
    (kk : ∀ (H1 : Heap), va_P D cl (rl lo (n + 1) (va_up w (lo + n) (.inl (cA, N, .inr (.inr (.inr (.inr (fun _ => none)))))))) H1 → va_S (fun q : Nat => lo ≤ q) H0 H1 locs →
      W p l e R s m args below meth c H1 locs (cells + 1) (slots + N) Q (F0 m (pc + 3) ls (.ref (lo + n) :: rest))) : W p l e R s m args below meth c H locs cells slots Q (F0 m pc ls (.int k :: rest)) := by
  refine va_newq hexec hb hown hclink hover hK hP (rl_D lo n w) hS (fun q h => Nat.le_trans hlo h) hn hN (by omega) hcells hslots hdg fun q cB H1 hK1 hP1 hD1 hS1 => ?_
  refine x_size fun hz1 => ?_
  obtain rfl := x_q (by omega) hP1 hD1
  have hcB : cB = cA := by
    obtain ⟨_, _, _, _, _, h1⟩ := (hK1.2 tys.length (cB, .object C) (by simp)).2
    obtain ⟨_, _, _, _, _, h2⟩ := (hK.2 t0 _ ht).2
    exact Option.some.inj (Eq.trans (Eq.symm h1) h2)
  subst hcB
  rw [rl_push] at hP1
  exact kk H1 hP1 hS1
theorem x_aastq (hexec : p.tables.exec = Jvm.exec) (hb : c.code = cc) (hK : va_K D cl tys s) (hP : va_P D cl (rl lo n w) H) (hS : va_S (fun q : Nat => lo ≤ q) H0 H locs) (h1 : lo ≤ a) (h2 : a < lo + n) {v : Nat} (h3 : lo ≤ v) (h4 : v < lo + n) (t0 ci : Nat) {cA : ClassId} {r : vw_C} {N : Nat} {vs : List Value} {f : Nat → Option Nat} (ha : w a = .inl (cA, N, .inr (.inr (.inr (.inr f))))) (ht : tys[t0]? = some (cA, .object r.1)) (hv : w v = .inr (ci, vs)) (hc : cl[ci]? = some r) {x : Int32} {i : Nat} (hi : x.toNatClampNeg = i) (hin : vp_in x N) (hdg : decode cc pc = .ok (.aastore, 1))
    (kk : ∀ (H1 : Heap) (locs1 : List Loc), va_P D cl (rl lo n (va_up w a (.inl (cA, N, .inr (.inr (.inr (.inr (va_up f i (some v))))))))) H1 → va_S (fun q : Nat => lo ≤ q) H0 H1 locs1 → W p l e R s m args below meth c H1 locs1 cells slots Q (F0 m (pc + 1) ls rest)) : W p l e R s m args below meth c H locs cells slots Q (F0 m pc ls (.ref v :: .int x :: .ref a :: rest)) := by
  subst hi
  exact va_astq hexec hb hK hP (rl_D lo n w) hS (a - lo) t0 (v - lo) ci (by rw [rl_at h1 h2, ha]) ht (by rw [rl_at h3 h4, hv]) hc hin hdg fun H1 locs1 hP _ hS => kk H1 locs1 (by rw [rl_set _ h1 h2] at hP; exact hP) hS
theorem x_recv {a ci : Nat} {q : vw_C} {fs : List Value} (hK : va_K D cl tys s) (hP : va_P D cl (rl lo n w) H) (h1 : lo ≤ a) (h2 : a < lo + n) (hc : cl[ci]? = some q) (he : w a = .inr (ci, fs)) : ∃ cell : Cell, H[a]? = some cell ∧ cell.vm.isStatics = false ∧ s.vm.findClass q.1 = some cell.cls :=
  va_recv hK hP hc (q0 := a - lo) (by rw [rl_at h1 h2, he])
end
/-! what every contract stands on -/
section
variable {p : Program} {l : Launch} {e : Env} {R : Room} {s : State} {m : MethodId} {args : Array Value} {below : List Frame} {meth : Method} {c : Code} {H : Heap} {locs : List Loc} {cells slots : Nat} {Q : State → Prop}
variable {cc : ByteArray} {pc : Nat} {ls : Array Slot} {rest st0 : List Value} {a : Array Value} {D : va_G} {cy : Nat → ClassId} {H0 : Heap} {lo n : Nat} {w : Nat → va_E} {mc ms : Nat}
/-- the array classes: 0 int[], 1 Cell[], 2 Well[], 3 WellLog[], 4 Partner[] -/
def tyL (cy : Nat → ClassId) : List (ClassId × FieldType) := [(cy 0, .int), (cy 1, .object "PoreField$Cell"), (cy 2, .object "PoreField$Well"), (cy 3, .object "PoreField$WellLog"), (cy 4, .object "PoreField$Partner"), (cy 5, .boolean), (cy 6, .array .int), (cy 7, .long)]
/-- there is an array class over these arrays -/
def AOA (t : FieldType) (U : State) : Prop := (Cond.arrayOver (.array t)).before #[] U = true
theorem AOA.use {t : FieldType} {A : Array Value} {U : State} (h : AOA t U) : (Cond.arrayOver (.array t)).before A U = true := h
theorem AOA.moved {t : FieldType} {u U : State} (hvm : u.vm.Alike U.vm) (h : AOA t u) : AOA t U := by
  obtain ⟨comp, c, k, h1, h2, h3, h4, h5⟩ := arrayOverA_spec h
  obtain ⟨k', hk', he⟩ := hvm.2.2 _ _ h3
  have hi : (U.vm.classes.findIdx? fun (x : Class) => match x.kind with | .array component _ => component == comp | _ => false) = some c := by
    rw [hvm.findIdx?_eq _ (fun _ => rfl)]
    exact h2
  have hkind : k'.kind = .array comp (.array t) := by rw [he]; exact h4
  have f1 : U.vm.findClass (FieldType.array t).toString = some comp := by rw [hvm.findClass]; exact h1
  have f2 : U.vm.findClass ("[" ++ (FieldType.array t).toString) = some c := by rw [hvm.findClass]; exact h5
  unfold AOA Cond.before Cond.holds
  simp only [Cond.value]
  rw [f1, Option.bind_some]
  refine (congrArg (fun o : Option Nat => (o.bind (fun c => (U.vm.classes[c]?).map fun (k : Class) => match k.kind with | .array _ ty => decide (ty = FieldType.array t) && decide (U.vm.findClass ("[" ++ (FieldType.array t).toString) = some c) | _ => false) == some true)) hi).trans ?_
  simp [hk', hkind, f2]
/-- the reckoner's rows of rows -/
def KX (U : State) : Prop := AOA .int U
theorem KX.warm {U : State} (h : KX s) (hW : s.WarmedH U.vm) : KX U := AOA.moved hW.alike h
theorem KX.same {u U : State} (hv : u.vm = U.vm) (h : KX u) : KX U := AOA.moved (by rw [hv]; exact Vm.Alike.refl U.vm) h
/-- the classes and array classes, and the private methods that are called from a nest mate -/
def KK (D : va_G) (cy : Nat → ClassId) (U : State) : Prop := va_K D vwCl (tyL cy) U ∧ va_Nw (.methodLinkNest RX2 142 yX6_neighbour RX6) U ∧ KX U
theorem KK.warm {U : State} (h : KK D cy s) (hW : s.WarmedH U.vm) : KK D cy U := ⟨va_K.moved hW.alike h.1, va_Nw.warmM hW h.2.1, h.2.2.warm hW⟩
theorem KK.same {u U : State} (hv : u.vm = U.vm) (h : KK D cy u) : KK D cy U := ⟨va_K.moved (by rw [hv]; exact Vm.Alike.refl U.vm) h.1, va_Nw.same rfl hv h.2.1, h.2.2.same hv⟩
/-- a start: the arguments, the run of cells -/
def PcW (D : va_G) (cy : Nat → ClassId) (lo n : Nat) (w : Nat → va_E) (av : List Value) : Array Value → State → Prop := va_Pc av (fun U => va_P D vwCl (rl lo n w) U.heap ∧ KK D cy U)
abbrev QiW (D : va_G) (lo n : Nat) (w : Nat → va_E) (v : Int32) : Array Value → State → Outcome → State → Prop := va_Qi (fun (r : Int32) (_ : Unit) => r = v) (fun _ t => va_P D vwCl (rl lo n w) t.heap) (fun q : Nat => lo ≤ q)
abbrev QlW (D : va_G) (lo n : Nat) (w : Nat → va_E) (v : Int64) : Array Value → State → Outcome → State → Prop := va_Ql (fun (r : Int64) (_ : Unit) => r = v) (fun _ t => va_P D vwCl (rl lo n w) t.heap) (fun q : Nat => lo ≤ q)
abbrev QvW (D : va_G) (lo n : Nat) (w : Nat → va_E) : Array Value → State → Outcome → State → Prop := va_Qv (fun (_ : Unit) => True) (fun _ t => va_P D vwCl (rl lo n w) t.heap) (fun q : Nat => lo ≤ q)
theorem PcW.blind {av : List Value} : FrameBlind (PcW D cy lo n w av) := fun _ U g mk q => ⟨q.1, q.2.1, KK.same (u := U) (by rfl) q.2.2⟩
theorem preV {C : String} {b : Nat} {As : List Value} (hP : va_P D vwCl (rl lo n w) H) (hK : KK D cy s) (hr : ∃ cell : Cell, H[b]? = some cell ∧ cell.vm.isStatics = false ∧ s.vm.findClass C = some cell.cls) : PreV s H C b (PcW D cy lo n w (.ref b :: As)) As :=
  ⟨PcW.blind, hr, fun U hU hW => ⟨rfl, by rw [hU]; exact hP, hK.warm hW⟩⟩
theorem preS {As : List Value} (hP : va_P D vwCl (rl lo n w) H) (hK : KK D cy s) : PreS s H (PcW D cy lo n w As) As :=
  ⟨PcW.blind, fun U hU hW => ⟨rfl, by rw [hU]; exact hP, hK.warm hW⟩⟩
theorem x_calli {v : Int32} {w' : Nat → va_E} (hr : va_Run p l e R s m args below meth c H locs cells slots mc ms (F0 m pc ls st0) rest (QiW D lo n w' v a) (fun q : Nat => lo ≤ q)) (hS : va_S (fun q : Nat => lo ≤ q) H0 H locs)
    (kk : ∀ (H1 : Heap) (locs1 : List Loc), va_P D vwCl (rl lo n w') H1 → va_S (fun q : Nat => lo ≤ q) H0 H1 locs1 → W p l e R s m args below meth c H1 locs1 (cells + mc) (slots + ms) Q (F0 m (pc + 3) ls (.int v :: rest))) : W p l e R s m args below meth c H locs cells slots Q (F0 m pc ls st0) :=
  va_calli hr hS (fun _ _ h => h) (fun _ h => h) fun r u t H1 locs1 ht hvm hw hB _ _ hS1 => by
    subst hw
    exact kk H1 locs1 (by rw [← ht]; exact hB) hS1
theorem x_calll {v : Int64} {w' : Nat → va_E} (hr : va_Run p l e R s m args below meth c H locs cells slots mc ms (F0 m pc ls st0) rest (QlW D lo n w' v a) (fun q : Nat => lo ≤ q)) (hS : va_S (fun q : Nat => lo ≤ q) H0 H locs)
    (kk : ∀ (H1 : Heap) (locs1 : List Loc), va_P D vwCl (rl lo n w') H1 → va_S (fun q : Nat => lo ≤ q) H0 H1 locs1 → W p l e R s m args below meth c H1 locs1 (cells + mc) (slots + ms) Q (F0 m (pc + 3) ls (.long v :: rest))) : W p l e R s m args below meth c H locs cells slots Q (F0 m pc ls st0) :=
  va_calll hr hS (fun _ _ h => h) (fun _ h => h) fun r u t H1 locs1 ht hvm hw hB _ _ hS1 => by
    subst hw
    exact kk H1 locs1 (by rw [← ht]; exact hB) hS1
theorem x_callv {w' : Nat → va_E} (hr : va_Run p l e R s m args below meth c H locs cells slots mc ms (F0 m pc ls st0) rest (QvW D lo n w' a) (fun q : Nat => lo ≤ q)) (hS : va_S (fun q : Nat => lo ≤ q) H0 H locs)
    (kk : ∀ (H1 : Heap) (locs1 : List Loc), va_P D vwCl (rl lo n w') H1 → va_S (fun q : Nat => lo ≤ q) H0 H1 locs1 → W p l e R s m args below meth c H1 locs1 (cells + mc) (slots + ms) Q (F0 m (pc + 3) ls rest)) : W p l e R s m args below meth c H locs cells slots Q (F0 m pc ls st0) :=
  va_callv hr hS (fun _ _ h => h) (fun _ h => h) fun u t H1 locs1 ht hvm hw hB _ _ hS1 => kk H1 locs1 (by rw [← ht]; exact hB) hS1
theorem x_at {ws : va_W} {t : State} (ht : t.heap = H) (hP : va_P D vwCl ws H) : va_P D vwCl ws t.heap := by rw [ht]; exact hP
theorem x_entry {av : List Value} (hv : PcW D cy lo n w av args s) : args = av.toArray ∧ va_P D vwCl (rl lo n w) s.heap ∧ KK D cy s ∧ va_S (fun q : Nat => lo ≤ q) s.heap s.heap [] := ⟨hv.1, hv.2.1, hv.2.2, va_S.rf⟩
end
