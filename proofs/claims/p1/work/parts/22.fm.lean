/-! the reckoner's field, where nothing is in any cell and no well is drilled -/
section
variable {cy : Nat → ClassId} {w w' : Nat → va_E} {f q : Nat} {wc nw pm tk st : Int32} {b : Nat} {x : va_E}
theorem nI_m3 (c : Nat) : (3 : Int32) * nI c = nI (3 * c) := (Int32.ofNat_mul 3 c).symm
theorem nI_s1 {c : Nat} (h : 0 < c) : nI c - 1 = nI (c - 1) := by
  obtain ⟨k, rfl⟩ : ∃ k, c = k + 1 := ⟨c - 1, by omega⟩
  rw [Nat.add_sub_cancel, nI_succ, Int32.add_sub_cancel]
theorem nI_sb {a b c : Nat} (h : a = c + b) : nI a - nI b = nI c := by
  rw [h, ← nI_add, Int32.add_sub_cancel]
theorem upd_uni {d : Nat → Int32} {N i : Nat} {v c : Int32} (hv : v = c) (h : ∀ j, j < N → d j = c) : ∀ j, j < N → upd d i v j = c := fun j hj => by
  unfold upd
  split
  · exact hv
  · exact h j hj
theorem cpy_uni {d d' : Nat → Int32} {N k : Nat} {c : Int32} (hk : N ≤ k) (h : ∀ j, j < N → d j = c) : ∀ j, j < N → va_cpy d d' 0 0 k j = c := fun j hj => by
  unfold va_cpy
  rw [if_pos (by omega)]
  rw [show 0 + (j - 0) = j by omega]
  exact h j hj
/-- the reckoner's field at f: its own cell -/
abbrev F7 (f : Nat) (wc nw pm tk st : Int32) : va_E := .inr (7, [.ref (f + 1), .ref (f + 2), .ref (f + 3), .ref (f + 4), .ref (f + 5), .ref (f + 12), .ref (f + 13), .ref (f + 14), .ref (f + 15), .int wc, .int nw, .int pm, .int tk, .int st])
/-- N ints (array class t), each of them c -/
def AU (cy : Nat → ClassId) (t N : Nat) (c : Int32) (w : Nat → va_E) (a : Nat) : Prop := ∃ d : Nat → Int32, w a = .inl (cy t, N, .inl d) ∧ ∀ j, j < N → d j = c
/-- N ints -/
def AN (cy : Nat → ClassId) (N : Nat) (w : Nat → va_E) (a : Nat) : Prop := ∃ d : Nat → Int32, w a = .inl (cy 0, N, .inl d)
def FM (cy : Nat → ClassId) (w : Nat → va_E) (f : Nat) (nw tk : Int32) : Prop :=
  w f = F7 f 0 nw 10 tk 0 ∧ AU cy 0 16 40 w (f + 1) ∧ AU cy 0 48 0 w (f + 2) ∧ AU cy 5 16 0 w (f + 3) ∧ AU cy 5 16 0 w (f + 4)
  ∧ w (f + 5) = .inl (cy 6, 6, .inr (.inr (.inr (.inr fun i => if i < 6 then some (f + 5 + 1 + i) else none))))
  ∧ (∀ i, i < 6 → AU cy 0 14 0 w (f + 5 + 1 + i)) ∧ AU cy 0 3 40 w (f + 12) ∧ AU cy 0 6 0 w (f + 13) ∧ AU cy 0 3 0 w (f + 14) ∧ AN cy 3 w (f + 15)
theorem FM.self (h : FM cy w f nw tk) : w f = F7 f 0 nw 10 tk 0 := h.1
theorem FM.room (h : FM cy w f nw tk) : AU cy 0 16 40 w (f + 1) := h.2.1
theorem FM.has (h : FM cy w f nw tk) : AU cy 0 48 0 w (f + 2) := h.2.2.1
theorem FM.east (h : FM cy w f nw tk) : AU cy 5 16 0 w (f + 3) := h.2.2.2.1
theorem FM.south (h : FM cy w f nw tk) : AU cy 5 16 0 w (f + 4) := h.2.2.2.2.1
theorem FM.wells (h : FM cy w f nw tk) : w (f + 5) = .inl (cy 6, 6, .inr (.inr (.inr (.inr fun i => if i < 6 then some (f + 5 + 1 + i) else none)))) := h.2.2.2.2.2.1
theorem FM.row (h : FM cy w f nw tk) (i : Nat) (hi : i < 6) : AU cy 0 14 0 w (f + 5 + 1 + i) := h.2.2.2.2.2.2.1 i hi
theorem FM.capacity (h : FM cy w f nw tk) : AU cy 0 3 40 w (f + 12) := h.2.2.2.2.2.2.2.1
theorem FM.sums (h : FM cy w f nw tk) : AU cy 0 6 0 w (f + 13) := h.2.2.2.2.2.2.2.2.1
theorem FM.goes (h : FM cy w f nw tk) : AU cy 0 3 0 w (f + 14) := h.2.2.2.2.2.2.2.2.2.1
theorem FM.left (h : FM cy w f nw tk) : AN cy 3 w (f + 15) := h.2.2.2.2.2.2.2.2.2.2
theorem AU.ne {t N a : Nat} {c : Int32} (h : AU cy t N c w a) (hn : a ≠ b) : AU cy t N c (va_up w b x) a := by
  obtain ⟨d, h1, h2⟩ := h
  exact ⟨d, (xu_ne hn).trans h1, h2⟩
theorem AN.ne {N a : Nat} (h : AN cy N w a) (hn : a ≠ b) : AN cy N (va_up w b x) a := by
  obtain ⟨d, h1⟩ := h
  exact ⟨d, (xu_ne hn).trans h1⟩
theorem AU.at {t N a : Nat} {c : Int32} {d : Nat → Int32} (h : ∀ j, j < N → d j = c) : AU cy t N c (va_up w a (.inl (cy t, N, .inl d))) a := ⟨d, xu_same _ _ _, h⟩
theorem FM.o (h : FM cy w f nw tk) (hb : b < f ∨ f + 16 ≤ b) : FM cy (va_up w b x) f nw tk := by
  obtain ⟨h1, h2, h3, h4, h5, h6, h7, h8, h9, h10, h11⟩ := h
  exact ⟨(xu_ne (by omega)).trans h1, h2.ne (by omega), h3.ne (by omega), h4.ne (by omega), h5.ne (by omega), (xu_ne (by omega)).trans h6, fun i hi => (h7 i hi).ne (by omega), h8.ne (by omega), h9.ne (by omega), h10.ne (by omega), h11.ne (by omega)⟩
theorem FM.ext (h : FM cy w f nw tk) (e : ∀ a, f ≤ a → a < f + 16 → w' a = w a) : FM cy w' f nw tk := by
  have au : ∀ {t N a : Nat} {c : Int32}, f ≤ a → a < f + 16 → AU cy t N c w a → AU cy t N c w' a := fun g1 g2 ⟨d, k1, k2⟩ => ⟨d, (e _ g1 g2).trans k1, k2⟩
  obtain ⟨h1, h2, h3, h4, h5, h6, h7, h8, h9, h10, h11⟩ := h
  refine ⟨(e _ (by omega) (by omega)).trans h1, au (by omega) (by omega) h2, au (by omega) (by omega) h3, au (by omega) (by omega) h4, au (by omega) (by omega) h5, (e _ (by omega) (by omega)).trans h6, fun i hi => au (by omega) (by omega) (h7 i hi), au (by omega) (by omega) h8, au (by omega) (by omega) h9, au (by omega) (by omega) h10, ?_⟩
  obtain ⟨d, k1⟩ := h11
  exact ⟨d, (e _ (by omega) (by omega)).trans k1⟩
theorem FM.up_self {nw' tk' : Int32} (h : FM cy w f nw tk) : FM cy (va_up w f (F7 f 0 nw' 10 tk' 0)) f nw' tk' := by
  obtain ⟨h1, h2, h3, h4, h5, h6, h7, h8, h9, h10, h11⟩ := h
  exact ⟨xu_same _ _ _, h2.ne (by omega), h3.ne (by omega), h4.ne (by omega), h5.ne (by omega), (xu_ne (by omega)).trans h6, fun i hi => (h7 i hi).ne (by omega), h8.ne (by omega), h9.ne (by omega), h10.ne (by omega), h11.ne (by omega)⟩
theorem FM.up_room {d : Nat → Int32} (h : FM cy w f nw tk) (k : ∀ j, j < 16 → d j = 40) : FM cy (va_up w (f + 1) (.inl (cy 0, 16, .inl d))) f nw tk := by
  obtain ⟨h1, h2, h3, h4, h5, h6, h7, h8, h9, h10, h11⟩ := h
  exact ⟨(xu_ne (by omega)).trans h1, AU.at k, h3.ne (by omega), h4.ne (by omega), h5.ne (by omega), (xu_ne (by omega)).trans h6, fun i hi => (h7 i hi).ne (by omega), h8.ne (by omega), h9.ne (by omega), h10.ne (by omega), h11.ne (by omega)⟩
theorem FM.up_has {d : Nat → Int32} (h : FM cy w f nw tk) (k : ∀ j, j < 48 → d j = 0) : FM cy (va_up w (f + 2) (.inl (cy 0, 48, .inl d))) f nw tk := by
  obtain ⟨h1, h2, h3, h4, h5, h6, h7, h8, h9, h10, h11⟩ := h
  exact ⟨(xu_ne (by omega)).trans h1, h2.ne (by omega), AU.at k, h4.ne (by omega), h5.ne (by omega), (xu_ne (by omega)).trans h6, fun i hi => (h7 i hi).ne (by omega), h8.ne (by omega), h9.ne (by omega), h10.ne (by omega), h11.ne (by omega)⟩
theorem FM.up_east {d : Nat → Int32} (h : FM cy w f nw tk) (k : ∀ j, j < 16 → d j = 0) : FM cy (va_up w (f + 3) (.inl (cy 5, 16, .inl d))) f nw tk := by
  obtain ⟨h1, h2, h3, h4, h5, h6, h7, h8, h9, h10, h11⟩ := h
  exact ⟨(xu_ne (by omega)).trans h1, h2.ne (by omega), h3.ne (by omega), AU.at k, h5.ne (by omega), (xu_ne (by omega)).trans h6, fun i hi => (h7 i hi).ne (by omega), h8.ne (by omega), h9.ne (by omega), h10.ne (by omega), h11.ne (by omega)⟩
theorem FM.up_south {d : Nat → Int32} (h : FM cy w f nw tk) (k : ∀ j, j < 16 → d j = 0) : FM cy (va_up w (f + 4) (.inl (cy 5, 16, .inl d))) f nw tk := by
  obtain ⟨h1, h2, h3, h4, h5, h6, h7, h8, h9, h10, h11⟩ := h
  exact ⟨(xu_ne (by omega)).trans h1, h2.ne (by omega), h3.ne (by omega), h4.ne (by omega), AU.at k, (xu_ne (by omega)).trans h6, fun i hi => (h7 i hi).ne (by omega), h8.ne (by omega), h9.ne (by omega), h10.ne (by omega), h11.ne (by omega)⟩
theorem FM.up_capacity {d : Nat → Int32} (h : FM cy w f nw tk) (k : ∀ j, j < 3 → d j = 40) : FM cy (va_up w (f + 12) (.inl (cy 0, 3, .inl d))) f nw tk := by
  obtain ⟨h1, h2, h3, h4, h5, h6, h7, h8, h9, h10, h11⟩ := h
  exact ⟨(xu_ne (by omega)).trans h1, h2.ne (by omega), h3.ne (by omega), h4.ne (by omega), h5.ne (by omega), (xu_ne (by omega)).trans h6, fun i hi => (h7 i hi).ne (by omega), AU.at k, h9.ne (by omega), h10.ne (by omega), h11.ne (by omega)⟩
theorem FM.up_sums {d : Nat → Int32} (h : FM cy w f nw tk) (k : ∀ j, j < 6 → d j = 0) : FM cy (va_up w (f + 13) (.inl (cy 0, 6, .inl d))) f nw tk := by
  obtain ⟨h1, h2, h3, h4, h5, h6, h7, h8, h9, h10, h11⟩ := h
  exact ⟨(xu_ne (by omega)).trans h1, h2.ne (by omega), h3.ne (by omega), h4.ne (by omega), h5.ne (by omega), (xu_ne (by omega)).trans h6, fun i hi => (h7 i hi).ne (by omega), h8.ne (by omega), AU.at k, h10.ne (by omega), h11.ne (by omega)⟩
theorem FM.up_goes {d : Nat → Int32} (h : FM cy w f nw tk) (k : ∀ j, j < 3 → d j = 0) : FM cy (va_up w (f + 14) (.inl (cy 0, 3, .inl d))) f nw tk := by
  obtain ⟨h1, h2, h3, h4, h5, h6, h7, h8, h9, h10, h11⟩ := h
  exact ⟨(xu_ne (by omega)).trans h1, h2.ne (by omega), h3.ne (by omega), h4.ne (by omega), h5.ne (by omega), (xu_ne (by omega)).trans h6, fun i hi => (h7 i hi).ne (by omega), h8.ne (by omega), h9.ne (by omega), AU.at k, h11.ne (by omega)⟩
theorem FM.up_left {d : Nat → Int32} (h : FM cy w f nw tk) : FM cy (va_up w (f + 15) (.inl (cy 0, 3, .inl d))) f nw tk := by
  obtain ⟨h1, h2, h3, h4, h5, h6, h7, h8, h9, h10, h11⟩ := h
  exact ⟨(xu_ne (by omega)).trans h1, h2.ne (by omega), h3.ne (by omega), h4.ne (by omega), h5.ne (by omega), (xu_ne (by omega)).trans h6, fun i hi => (h7 i hi).ne (by omega), h8.ne (by omega), h9.ne (by omega), h10.ne (by omega), ⟨d, xu_same _ _ _⟩⟩
/-- outside of [f, f + k) it is as it was -/
def fr (f k : Nat) (w u : Nat → va_E) : Prop := ∀ a, a < f ∨ f + k ≤ a → u a = w a
theorem fr.rf {k : Nat} : fr f k w w := fun _ _ => rfl
theorem fr.up {k : Nat} {v : Nat → va_E} (h : fr f k w v) (h1 : f ≤ b) (h2 : b < f + k) : fr f k w (va_up v b x) := fun a ha => (xu_ne (by omega)).trans (h a ha)
theorem fr.tr {k f' k' : Nat} {v u : Nat → va_E} (h : fr f k w v) (h' : fr f' k' v u) (h1 : f ≤ f') (h2 : f' + k' ≤ f + k) : fr f k w u := fun a ha => (h' a (by omega)).trans (h a ha)
theorem lv_east : ∀ i, i < 16 → nI i - nI i / 4 * 4 < 3 → i + 1 < 16 := by decide +kernel
end
/-- nothing comes back; the run of cells behind it -/
abbrev QvX (D : va_G) (lo n : Nat) (X : (Nat → va_E) → Prop) : Array Value → State → Outcome → State → Prop := va_Qv (fun (u : Nat → va_E) => X u) (fun u t => va_P D vwCl (rl lo n u) t.heap) (fun q : Nat => lo ≤ q)
section
variable {p : Program} {l : Launch} {e : Env} {R : Room} {s : State} {m : MethodId} {args : Array Value} {below : List Frame} {meth : Method} {c : Code} {H : Heap} {locs : List Loc} {cells slots : Nat} {Q : State → Prop}
variable {cc : ByteArray} {pc : Nat} {ls : Array Slot} {rest st0 : List Value} {a : Nat} {av : Array Value} {D : va_G} {cl : List vw_C} {tys : List (ClassId × FieldType)} {H0 : Heap} {lo n n1 mc ms : Nat} {w : Nat → va_E}
theorem x_callvx {X : (Nat → va_E) → Prop} (hr : va_Run p l e R s m args below meth c H locs cells slots mc ms (F0 m pc ls st0) rest (QvX D lo n X av) (fun q : Nat => lo ≤ q)) (hS : va_S (fun q : Nat => lo ≤ q) H0 H locs)
    (kk : ∀ (u : Nat → va_E) (H1 : Heap) (locs1 : List Loc), X u → va_P D vwCl (rl lo n u) H1 → va_S (fun q : Nat => lo ≤ q) H0 H1 locs1 → W p l e R s m args below meth c H1 locs1 (cells + mc) (slots + ms) Q (F0 m (pc + 3) ls rest)) : W p l e R s m args below meth c H locs cells slots Q (F0 m pc ls st0) :=
  va_callv hr hS (fun _ _ h => h) (fun _ h => h) fun u t H1 locs1 ht hvm hw hB _ _ hS1 => kk u H1 locs1 hw (by rw [← ht]; exact hB) hS1
theorem x_calliN {X : Int32 → (Nat → va_E) → Prop} (hr : va_Run p l e R s m args below meth c H locs cells slots mc ms (F0 m pc ls st0) rest (va_Qi (fun (r : Int32) (u : Nat → va_E) => X r u) (fun u tE => va_P D vwCl (rl lo n1 u) tE.heap ∧ tE.heap.size = lo + n1) (fun q : Nat => lo ≤ q) av) (fun q : Nat => lo ≤ q)) (hS : va_S (fun q : Nat => lo ≤ q) H0 H locs)
    (kk : ∀ (v : Int32) (u : Nat → va_E) (H1 : Heap) (locs1 : List Loc), X v u → va_P D vwCl (rl lo n1 u) H1 → H1.size = lo + n1 → va_S (fun q : Nat => lo ≤ q) H0 H1 locs1 → W p l e R s m args below meth c H1 locs1 (cells + mc) (slots + ms) Q (F0 m (pc + 3) ls (.int v :: rest))) : W p l e R s m args below meth c H locs cells slots Q (F0 m pc ls st0) :=
  va_calli hr hS (fun _ _ h => h) (fun _ h => h) fun r u t H1 locs1 ht hvm hw hB _ _ hS1 => kk r u H1 locs1 hw (by rw [← ht]; exact hB.1) (by rw [← ht]; exact hB.2) hS1
theorem x_callrN {X : (Nat → va_E) → Prop} {b : Nat} (hr : va_Run p l e R s m args below meth c H locs cells slots mc ms (F0 m pc ls st0) rest (va_Qr (fun (u : Nat → va_E) => X u) (fun u ra tE => ra = b ∧ va_P D vwCl (rl lo n1 u) tE.heap ∧ tE.heap.size = lo + n1) (fun q : Nat => lo ≤ q) av) (fun q : Nat => lo ≤ q)) (hS : va_S (fun q : Nat => lo ≤ q) H0 H locs)
    (kk : ∀ (u : Nat → va_E) (H1 : Heap) (locs1 : List Loc), X u → va_P D vwCl (rl lo n1 u) H1 → H1.size = lo + n1 → va_S (fun q : Nat => lo ≤ q) H0 H1 locs1 → W p l e R s m args below meth c H1 locs1 (cells + mc) (slots + ms) Q (F0 m (pc + 3) ls (.ref b :: rest))) : W p l e R s m args below meth c H locs cells slots Q (F0 m pc ls st0) :=
  va_callr hr hS (fun _ _ h => h) (fun _ h => h) fun u ra t H1 locs1 ht hvm hw hB _ _ hS1 => by
    obtain ⟨rfl, h1, h2⟩ := hB
    exact kk u H1 locs1 hw (by rw [← ht]; exact h1) (by rw [← ht]; exact h2) hS1
theorem x_copyz (hexec : p.tables.exec = Jvm.exec) (hb : c.code = cc) (hml : c.maxLocals = ls.size) {own : String} {index : Nat} (hown : s.vm.findClass own = some m.cls) (hlink : (Cond.methodLink own index arraycopyName).before args s = true) (hnat : (Cond.native arraycopyName).before args s = true) (hstat : (Cond.static arraycopyName).before args s = true) (hini : (Cond.initialized "java/lang/System").before args s = true)
    (hK : va_K D cl tys s) (hP : va_P D cl (rl lo n w) H) (hS : va_S (fun q : Nat => lo ≤ q) H0 H locs) (t0 : Nat) {b : Nat} (h1 : lo ≤ a) (h2 : a < lo + n) (h3 : lo ≤ b) (h4 : b < lo + n) {cA : ClassId} {N0 N1 : Nat} {f g : Nat → Int32} (ha : w a = .inl (cA, N0, .inl f)) (hb2 : w b = .inl (cA, N1, .inl g)) (ht : tys[t0]? = some (cA, .boolean)) {k : Int32} {k' : Nat} (hk0 : ¬ k < 0) (hk : k.toNatClampNeg = k') (hk1 : k' ≤ N0) (hk2 : k' ≤ N1) (hz : ∀ j, j < k' → f j = 0 ∨ f j = 1)
    (hframes : 1 ≤ R.frames) (hlocals : (rest.map fun v => v.category).sum + (nativeFrameWords "java/lang/System" "arraycopy" 5 + 11) ≤ R.locals) (hdg : decode cc pc = .ok (.invokestatic index, 3))
    (kk : ∀ (H1 : Heap) (locs1 : List Loc), va_P D cl (rl lo n (va_up w b (.inl (cA, N1, .inl (va_cpy f g 0 0 k'))))) H1 → va_S (fun q : Nat => lo ≤ q) H0 H1 locs1 → W p l e R s m args below meth c H1 locs1 cells slots Q (F0 m (pc + 3) ls rest)) : W p l e R s m args below meth c H locs cells slots Q (F0 m pc ls (.int k :: .int 0 :: .ref b :: .int 0 :: .ref a :: rest)) := by
  subst hk
  exact va_copyi hexec hb hml hown hlink hnat hstat hini hK hP (rl_D lo n w) hS (a - lo) (b - lo) t0 t0 (by rw [rl_at h1 h2, ha]) (by rw [rl_at h3 h4, hb2]) ht ht rfl (by decide) (by decide) hk0 (by show 0 + _ ≤ _; omega) (by show 0 + _ ≤ _; omega) (fun i hi => by
    have e : (0 : Int32).toNatClampNeg + i = i := by rw [show (0 : Int32).toNatClampNeg = 0 by decide]; omega
    rw [e]
    exact fit_z (hz i hi)) hframes hlocals hdg fun H1 locs1 hP _ hS => kk H1 locs1 (by rw [rl_set _ h3 h4] at hP; exact hP) hS
end
theorem x_aret {p : Program} {l : Launch} {e : Env} {R : Room} {s : State} {m : MethodId} {args : Array Value} {below : List Frame} {meth : Method} {c : Code} {H : Heap} {locs : List Loc} {cells slots : Nat} {cc : ByteArray} {Qc : Array Value → State → Outcome → State → Prop} {free : Addr → Prop} {b : Nat} {C : String} (hexec : p.tables.exec = Jvm.exec) (hb : c.code = cc) (hr : meth.sig.returnType = some (.object C))
    (hq : ∀ t : State, t.heap = H → s.WarmedH t.vm → Qc args s (.returned (some (.ref b))) t) (hf : ∀ q ∈ locs, free q.base)
    {pc : Nat} {ls : Array Slot} (hdg : decode cc pc = .ok (.areturn, 1)) (hlocks : meth.locks = false := by assumption) : W p l e R s m args below meth c H locs cells slots (MQ below Qc args s cells slots free) (F0 m pc ls [.ref b]) := by
  intro T hT X
  have hlocks : meth.locks = false := hlocks
  obtain ⟨fs, hret, hrun, hended, hW, hframe⟩ := X.leave (v := some (.ref b)) (fun h => by rw [hr] at h; cases h)
  have hmeth' : T.vm.method? m = some meth := X.method'
  refine ⟨T.setFrames fs, ?_, .returned (some (.ref b)), hrun, hended, hq _ hT hW, locs, ⟨⟨_, rfl⟩, hW, hframe⟩, hf⟩
  jvm_step X.here [X.here.top, hexec, hb, hdg, hmeth', hr, narrow, Value.isRef, FieldType.isReference]
  first
    | (intro acts; rw [hret _ acts rfl rfl rfl]; exact Steps.refl _)
    | (refine ⟨rfl, fun acts => ?_⟩; rw [hret _ acts rfl rfl rfl]; exact Steps.refl _)
    | (refine ⟨meth, hmeth', ⟨_, hr, rfl⟩, fun acts => ?_⟩; rw [hret _ acts rfl rfl rfl]; exact Steps.refl _)
    | (rw [hret _ _ rfl rfl rfl]; exact Steps.refl _)
    | (refine ⟨rfl, ?_⟩; rw [hret _ _ rfl rfl rfl]; exact Steps.refl _)
/-! the reckoner itself, as it was made -/
section
variable {cy : Nat → ClassId} {w w' : Nat → va_E} {q : Nat} {th pr bk bo bw : Int32} {b : Nat} {x : va_E}
abbrev F8 (q : Nat) (th pr bk bo bw : Int32) : va_E := .inr (8, [.int th, .ref (q + 1), .ref (q + 17), .ref (q + 21), .int pr, .int bk, .int bo, .int bw])
/-- a partner's row: its share, and nothing else -/
def PRow (cy : Nat → ClassId) (w : Nat → va_E) (a : Nat) (sh : Int32) : Prop := ∃ d : Nat → Int32, w a = .inl (cy 0, 4, .inl d) ∧ d 0 = sh ∧ ∀ j, 0 < j → j < 4 → d j = 0
def MM (cy : Nat → ClassId) (w : Nat → va_E) (q : Nat) (th pr bk bo bw : Int32) : Prop :=
  w q = F8 q th pr bk bo bw ∧ (∃ g : Nat → Option Nat, w (q + 17) = .inl (cy 6, 3, .inr (.inr (.inr (.inr g)))) ∧ ∀ i, i < 3 → g i = some (q + 18 + i))
  ∧ ∀ i, i < 3 → PRow cy w (q + 18 + i) (if i = 0 then 100 else 0)
def LB (cy : Nat → ClassId) (w : Nat → va_E) (q : Nat) : Prop := ∃ d : Nat → Int32, w (q + 21) = .inl (cy 0, 5, .inl d) ∧ d 0 = 0 ∧ d 1 = 0 ∧ d 2 = 0 ∧ d 3 = 0 ∧ d 4 = -1
theorem MM.self (h : MM cy w q th pr bk bo bw) : w q = F8 q th pr bk bo bw := h.1
theorem MM.outer (h : MM cy w q th pr bk bo bw) : ∃ g : Nat → Option Nat, w (q + 17) = .inl (cy 6, 3, .inr (.inr (.inr (.inr g)))) ∧ ∀ i, i < 3 → g i = some (q + 18 + i) := h.2.1
theorem MM.row (h : MM cy w q th pr bk bo bw) (i : Nat) (hi : i < 3) : PRow cy w (q + 18 + i) (if i = 0 then 100 else 0) := h.2.2 i hi
theorem PRow.ne {a : Nat} {sh : Int32} (h : PRow cy w a sh) (hn : a ≠ b) : PRow cy (va_up w b x) a sh := by
  obtain ⟨d, h1, h2⟩ := h
  exact ⟨d, (xu_ne hn).trans h1, h2⟩
theorem MM.o (h : MM cy w q th pr bk bo bw) (h1 : b ≠ q) (h2 : b ≠ q + 17) (h3 : b < q + 18 ∨ q + 21 ≤ b) : MM cy (va_up w b x) q th pr bk bo bw := by
  obtain ⟨g1, ⟨g, g2, g3⟩, g4⟩ := h
  exact ⟨(xu_ne (by omega)).trans g1, ⟨g, (xu_ne (by omega)).trans g2, g3⟩, fun i hi => (g4 i hi).ne (by omega)⟩
theorem MM.ext (h : MM cy w q th pr bk bo bw) (e : ∀ a, a = q ∨ (q + 17 ≤ a ∧ a < q + 21) → w' a = w a) : MM cy w' q th pr bk bo bw := by
  obtain ⟨g1, ⟨g, g2, g3⟩, g4⟩ := h
  refine ⟨(e _ (by omega)).trans g1, ⟨g, (e _ (by omega)).trans g2, g3⟩, fun i hi => ?_⟩
  obtain ⟨d, k1, k2⟩ := g4 i hi
  exact ⟨d, (e _ (by omega)).trans k1, k2⟩
theorem MM.up_self {th' pr' bk' bo' bw' : Int32} (h : MM cy w q th pr bk bo bw) : MM cy (va_up w q (F8 q th' pr' bk' bo' bw')) q th' pr' bk' bo' bw' := by
  obtain ⟨g1, ⟨g, g2, g3⟩, g4⟩ := h
  exact ⟨xu_same _ _ _, ⟨g, (xu_ne (by omega)).trans g2, g3⟩, fun i hi => (g4 i hi).ne (by omega)⟩
theorem MM.up_row {d : Nat → Int32} {i : Nat} (h : MM cy w q th pr bk bo bw) (hi : i < 3) (k0 : d 0 = (if i = 0 then 100 else 0)) (k : ∀ j, 0 < j → j < 4 → d j = 0) : MM cy (va_up w (q + 18 + i) (.inl (cy 0, 4, .inl d))) q th pr bk bo bw := by
  obtain ⟨g1, ⟨g, g2, g3⟩, g4⟩ := h
  refine ⟨(xu_ne (by omega)).trans g1, ⟨g, (xu_ne (by omega)).trans g2, g3⟩, fun j hj => ?_⟩
  by_cases e : j = i
  · subst e
    exact ⟨d, xu_same _ _ _, k0, k⟩
  · exact (g4 j hj).ne (by omega)
theorem LB.o (h : LB cy w q) (hb : b ≠ q + 21) : LB cy (va_up w b x) q := by
  obtain ⟨d, h1, h2⟩ := h
  exact ⟨d, (xu_ne (by omega)).trans h1, h2⟩
theorem LB.ext (h : LB cy w q) (e : w' (q + 21) = w (q + 21)) : LB cy w' q := by
  obtain ⟨d, h1, h2⟩ := h
  exact ⟨d, e.trans h1, h2⟩
theorem upd_k0 {d : Nat → Int32} {i : Nat} {v : Int32} {sh : Int32} (hi : 0 < i) (h : d 0 = sh) : upd d i v 0 = sh := by
  unfold upd
  rw [if_neg (by omega)]
  exact h
theorem upd_kz {d : Nat → Int32} {i : Nat} {v : Int32} (hv : v = 0) (h : ∀ j, 0 < j → j < 4 → d j = 0) : ∀ j, 0 < j → j < 4 → upd d i v j = 0 := fun j h1 h2 => by
  unfold upd
  split
  · exact hv
  · exact h j h1 h2
/-- what a public method of the reckoner leaves: the told number of the exception (0: none), its answer, all else as it was -/
abbrev QR (D : va_G) (lo n q : Nat) (w : Nat → va_E) (S : Int32 × Int32) : Array Value → State → Outcome → State → Prop := QxT D lo n (fun r u => (∃ fs, u q = .inr (8, .int S.1 :: fs)) ∧ (S.1 = 0 → r = S.2) ∧ fr q 22 w u)
end
