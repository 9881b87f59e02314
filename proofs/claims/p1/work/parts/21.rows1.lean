/-! rows for rows of rows: int[][] and boolean[][] -/
section
variable {p : Program} {l : Launch} {e : Env} {R : Room} {s : State} {m : MethodId} {args : Array Value} {below : List Frame} {meth : Method} {c : Code} {H : Heap} {locs : List Loc} {cells slots : Nat} {Q : State → Prop}
variable {cc : ByteArray} {pc : Nat} {ls : Array Slot} {rest : List Value} {D : va_G} {cl : List vw_C} {a : Nat} {tys : List (ClassId × FieldType)} {H0 : Heap} {lo n : Nat} {w : Nat → va_E}
theorem aoa_comp {t : FieldType} {cA c0 : ClassId} (hA : AOA t s) (hcA : s.vm.findClass ("[" ++ (FieldType.array t).toString) = some cA) (hc0 : s.vm.findClass (FieldType.array t).toString = some c0) : ∃ kA kC : Class, s.vm.classes[cA]? = some kA ∧ kA.kind = .array c0 (.array t) ∧ s.vm.classes[c0]? = some kC := by
  obtain ⟨comp, c, k, h1, h2, h3, h4, h5⟩ := arrayOverA_spec hA
  cases h5.symm.trans hcA
  cases h1.symm.trans hc0
  obtain ⟨kC, hkC, -⟩ := Vm.findClass_spec hc0
  exact ⟨k, kC, h3, h4, hkC⟩
theorem assign_rf {c0 : ClassId} : s.vm.assignable c0 c0 = true := by
  show (c0 == c0 || _) = true
  simp
theorem x_aaldA (hexec : p.tables.exec = Jvm.exec) (hb : c.code = cc) (hK : va_K D cl tys s) (hP : va_P D cl (rl lo n w) H) (h1 : lo ≤ a) (h2 : a < lo + n) (t0 : Nat) {cA : ClassId} {t : FieldType} {N : Nat} {f : Nat → Option Nat} (ha : w a = .inl (cA, N, .inr (.inr (.inr (.inr f))))) (ht : tys[t0]? = some (cA, .array t)) {x : Int32} {i b : Nat} (hi : x.toNatClampNeg = i) (hf : f i = some b) (hin : vp_in x N) (hdg : decode cc pc = .ok (.aaload, 1))
    (kk : W p l e R s m args below meth c H locs cells slots Q (F0 m (pc + 1) ls (.ref b :: rest))) : W p l e R s m args below meth c H locs cells slots Q (F0 m pc ls (.int x :: .ref a :: rest)) := by
  subst hi
  have hlt : x.toNatClampNeg < N := Nat.not_le.mp fun q => hin (Or.inr q)
  have hPa := rl_one hP h1 h2
  rw [ha] at hPa
  exact W.aald (v := .ref b) (ty := .array t) hexec hb hPa ((hK.2 t0 _ ht).1 N (fun j => va_rf (f j))) rfl (fun q => by cases q) (by show ¬ (x < 0 ∨ (arrV _ _ _).slots.size ≤ _); rw [arrV_size]; exact hin) (by show (arrV _ _ _).slots[_]? = _; rw [arrV_read _ _ hlt, hf]; rfl) rfl rfl hdg kk
theorem x_aastA (hexec : p.tables.exec = Jvm.exec) (hb : c.code = cc) (hK : va_K D cl tys s) (hA : AOA .int s) (hP : va_P D cl (rl lo n w) H) (hS : va_S (fun q : Nat => lo ≤ q) H0 H locs) (h1 : lo ≤ a) (h2 : a < lo + n) {v : Nat} (h3 : lo ≤ v) (h4 : v < lo + n) (t0 k0 : Nat) {cA c0 : ClassId} {N N0 : Nat} {f : Nat → Option Nat} {r : Nat → Int32} (ha : w a = .inl (cA, N, .inr (.inr (.inr (.inr f))))) (ht : tys[t0]? = some (cA, .array .int)) (hv : w v = .inl (c0, N0, .inl r)) (hk0 : tys[k0]? = some (c0, .int)) {x : Int32} {i : Nat} (hi : x.toNatClampNeg = i) (hin : vp_in x N) (hdg : decode cc pc = .ok (.aastore, 1))
    (kk : ∀ (H1 : Heap) (locs1 : List Loc), va_P D cl (rl lo n (va_up w a (.inl (cA, N, .inr (.inr (.inr (.inr (va_up f i (some v))))))))) H1 → va_S (fun q : Nat => lo ≤ q) H0 H1 locs1 → W p l e R s m args below meth c H1 locs1 cells slots Q (F0 m (pc + 1) ls rest)) : W p l e R s m args below meth c H locs cells slots Q (F0 m pc ls (.ref v :: .int x :: .ref a :: rest)) := by
  subst hi
  have hlt : x.toNatClampNeg < N := Nat.not_le.mp fun q => hin (Or.inr q)
  have h0 : ¬ x < 0 := fun q => hin (Or.inl q)
  have hPa := rl_one hP h1 h2
  have hPv := rl_one hP h3 h4
  rw [ha] at hPa
  rw [hv] at hPv
  have hat : (rl lo n w)[a - lo]? = some (a, .inl (cA, N, .inr (.inr (.inr (.inr f))))) := by rw [rl_at h1 h2, ha]
  obtain ⟨kA, kC, k1, k2, k3⟩ := aoa_comp hA (hK.2 t0 _ ht).2 (hK.2 k0 _ hk0).2
  refine W.aast hexec hb hPa (fun q h => by cases h) (fun h => by cases h) k1 k2 rfl k3 ⟨h0, by show _ < (arrV _ _ _).slots.size; rw [arrV_size]; exact hlt⟩ hPv (fun q h => by cases h) k3 assign_rf rfl rfl hdg fun H1 e z oq => ?_
  have hq : H1[a]? = some (vp_cell cA (N, .inr (.inr (.inr (.inr (va_up f x.toNatClampNeg (some v))))))) := by
    rw [e]
    rw [vp_cell_q, vp_cell_q, arrV_store]
    congr 2
    funext q
    by_cases hq : q = x.toNatClampNeg
    · subst hq
      simp [updV, va_up, va_rf]
    · simp [updV, va_up, hq]
  have hP1 : va_P D cl ((rl lo n w).set (a - lo) (a, .inl (cA, N, .inr (.inr (.inr (.inr (va_up f x.toNatClampNeg (some v)))))))) H1 := hP.set (rl_D lo n w) hat hq oq
  exact kk H1 _ (by rw [rl_set _ h1 h2] at hP1; exact hP1) (hS.put z oq h1)
theorem x_newA (hexec : p.tables.exec = Jvm.exec) (hb : c.code = cc) {own : String} {index : Nat} (hown : s.vm.findClass own = some m.cls) (hclink : (Cond.classLink own index (FieldType.array .int).toString).before args s = true) (hA : AOA .int s) (hK : va_K D cl tys s) (hP : va_P D cl (rl lo n w) H) (hS : va_S (fun q : Nat => lo ≤ q) H0 H locs) (hlo : lo ≤ H0.size) (hz : s.heap.size + cells = lo + n)
    {k : Int32} {N : Nat} (t0 : Nat) {cA : ClassId} (ht : tys[t0]? = some (cA, .array .int)) (hn : ¬ k < 0) (hN : k.toNatClampNeg = N) (hbytes : N ≤ 65536) (hcells : cells + 1 ≤ R.cells) (hslots : slots + N ≤ R.slots) (hdg : decode cc pc = .ok (.anewarray index, 3))
    (kk : ∀ (H1 : Heap), va_P D cl (rl lo (n + 1) (va_up w (lo + n) (.inl (cA, N, .inr (.inr (.inr (.inr (fun _ => none)))))))) H1 → va_S (fun q : Nat => lo ≤ q) H0 H1 locs →
      W p l e R s m args below meth c H1 locs (cells + 1) (slots + N) Q (F0 m (pc + 3) ls (.ref (lo + n) :: rest))) : W p l e R s m args below meth c H locs cells slots Q (F0 m pc ls (.int k :: rest)) := by
  subst hN
  refine x_size fun hz0 => ?_
  refine W.anewA hexec hb hown hclink hA.use rfl hdg rfl hn (by omega) hcells hslots fun cB kA comp f1 f2 f3 f4 => ?_
  have f1' : s.vm.findClass ("[" ++ (FieldType.array .int).toString) = some cA := (hK.2 t0 _ ht).2
  cases f1.symm.trans f1'
  generalize hH1 : H.push ({ cls := cA, slots := Array.replicate k.toNatClampNeg .null, vm := .none } : Cell) = H1
  have z1 : H1.size = H.size + 1 := by rw [← hH1, Array.size_push]
  have e1 : H1[H.size]? = some (arrV cA k.toNatClampNeg (fun _ => .null)) := by rw [← hH1, Array.getElem?_push_size, ← arrV_new]
  have o1 : ∀ q : Nat, q < H.size → H1[q]? = H[q]? := fun q hq => by rw [← hH1, Array.getElem?_push, if_neg (Nat.ne_of_lt hq)]
  have hle : lo + n ≤ H.size ∨ n = 0 := by
    by_cases hn0 : n = 0
    · exact Or.inr hn0
    · have := (rl_one hP (a := lo + n - 1) (by omega) (by omega)).lt
      exact Or.inl (by omega)
  have hsz : H.size = lo + n := by
    have := hS.1
    omega
  rw [hsz] at e1 z1 o1 ⊢
  refine kk H1 (rl_P fun q g1 g2 => ?_) ⟨Nat.le_trans hS.1 (by omega), fun x g1 g2 => (o1 x (by have := hS.1; omega)).trans (hS.2.1 x g1 g2), hS.2.2⟩
  by_cases e : q = lo + n
  · subst e
    rw [xu_same]
    show H1[lo + n]? = some (vp_cell _ _)
    rw [vp_cell_q]
    exact e1
  · rw [xu_ne e]
    exact rl_one (hP.kept (fun k x hx => o1 x.1 (by have := (hP k x hx).lt; omega))) g1 (by omega)
theorem x_zald (hexec : p.tables.exec = Jvm.exec) (hb : c.code = cc) (hK : va_K D cl tys s) (hP : va_P D cl (rl lo n w) H) (h1 : lo ≤ a) (h2 : a < lo + n) (t0 : Nat) {cA : ClassId} {N : Nat} {f : Nat → Int32} (ha : w a = .inl (cA, N, .inl f)) (ht : tys[t0]? = some (cA, .boolean)) {x : Int32} {i : Nat} (hi : x.toNatClampNeg = i) (hin : vp_in x N) (hdg : decode cc pc = .ok (.baload, 1))
    (kk : W p l e R s m args below meth c H locs cells slots Q (F0 m (pc + 1) ls (.int (f i) :: rest))) : W p l e R s m args below meth c H locs cells slots Q (F0 m pc ls (.int x :: .ref a :: rest)) := by
  subst hi
  exact va_zald hexec hb hK hP (a - lo) t0 (by rw [rl_at h1 h2, ha]) ht hin hdg kk
theorem x_zast (hexec : p.tables.exec = Jvm.exec) (hb : c.code = cc) (hK : va_K D cl tys s) (hP : va_P D cl (rl lo n w) H) (hS : va_S (fun q : Nat => lo ≤ q) H0 H locs) (h1 : lo ≤ a) (h2 : a < lo + n) (t0 : Nat) {cA : ClassId} {N : Nat} {f : Nat → Int32} (ha : w a = .inl (cA, N, .inl f)) (ht : tys[t0]? = some (cA, .boolean)) {x v : Int32} {i : Nat} (hi : x.toNatClampNeg = i) (hv : v = 0 ∨ v = 1) (hin : vp_in x N) (hdg : decode cc pc = .ok (.bastore, 1))
    (kk : ∀ (H1 : Heap) (locs1 : List Loc), va_P D cl (rl lo n (va_up w a (.inl (cA, N, .inl (upd f i v))))) H1 → va_S (fun q : Nat => lo ≤ q) H0 H1 locs1 → W p l e R s m args below meth c H1 locs1 cells slots Q (F0 m (pc + 1) ls rest)) : W p l e R s m args below meth c H locs cells slots Q (F0 m pc ls (.int v :: .int x :: .ref a :: rest)) := by
  subst hi
  have hn : vp_nar .boolean v = v := by rcases hv with rfl | rfl <;> rfl
  exact va_zast hexec hb hK hP (rl_D lo n w) hS (a - lo) t0 (by rw [rl_at h1 h2, ha]) ht hin hdg fun H1 locs1 hP _ hS => kk H1 locs1 (by rw [rl_set _ h1 h2, hn] at hP; exact hP) hS
theorem x_copyA (hexec : p.tables.exec = Jvm.exec) (hb : c.code = cc) (hml : c.maxLocals = ls.size) {own : String} {index : Nat} (hown : s.vm.findClass own = some m.cls) (hlink : (Cond.methodLink own index arraycopyName).before args s = true) (hnat : (Cond.native arraycopyName).before args s = true) (hstat : (Cond.static arraycopyName).before args s = true) (hini : (Cond.initialized "java/lang/System").before args s = true)
    (hK : va_K D cl tys s) (hA : AOA .int s) (hP : va_P D cl (rl lo n w) H) (hS : va_S (fun q : Nat => lo ≤ q) H0 H locs) (t0 k0 : Nat) {b : Nat} (h1 : lo ≤ a) (h2 : a < lo + n) (h3 : lo ≤ b) (h4 : b < lo + n) {cA c0 : ClassId} {N0 N1 : Nat} {f g : Nat → Option Nat} (ha : w a = .inl (cA, N0, .inr (.inr (.inr (.inr f))))) (hb2 : w b = .inl (cA, N1, .inr (.inr (.inr (.inr g))))) (ht : tys[t0]? = some (cA, .array .int)) (hk0 : tys[k0]? = some (c0, .int)) {k : Int32} {k' : Nat} (hn0 : ¬ k < 0) (hk : k.toNatClampNeg = k') (hk1 : k' ≤ N0) (hk2 : k' ≤ N1)
    (hel : ∀ i : Nat, i < k' → ∃ (y N2 : Nat) (r : Nat → Int32), f i = some y ∧ lo ≤ y ∧ y < lo + n ∧ w y = .inl (c0, N2, .inl r))
    (hframes : 1 ≤ R.frames) (hlocals : (rest.map fun v => v.category).sum + (nativeFrameWords "java/lang/System" "arraycopy" 5 + 11) ≤ R.locals) (hdg : decode cc pc = .ok (.invokestatic index, 3))
    (kk : ∀ (H1 : Heap) (locs1 : List Loc), va_P D cl (rl lo n (va_up w b (.inl (cA, N1, .inr (.inr (.inr (.inr (va_cpy f g 0 0 k')))))))) H1 → va_S (fun q : Nat => lo ≤ q) H0 H1 locs1 → W p l e R s m args below meth c H1 locs1 cells slots Q (F0 m (pc + 3) ls rest)) : W p l e R s m args below meth c H locs cells slots Q (F0 m pc ls (.int k :: .int 0 :: .ref b :: .int 0 :: .ref a :: rest)) := by
  subst hk
  have nn : k.toInt = (k.toNatClampNeg : Int) := by
    have hz0 : (0 : Int) ≤ k.toInt := by
      have := Int32.not_lt.mp hn0
      simpa using Int32.le_iff_toInt_le.mp this
    show k.toInt = ((k.toInt.toNat : Nat) : Int)
    omega
  have z0 : (0 : Int32).toNatClampNeg = 0 := by decide
  have z1 : (0 : Int32).toInt = 0 := by decide
  intro T hT X
  have hca := rl_one hP h1 h2
  have hcb := rl_one hP h3 h4
  rw [ha] at hca
  rw [hb2] at hcb
  have hc0 : H[a]? = some (vp_cell cA (N0, .inr (.inr (.inr (.inr f))))) := hca
  have hc1 : H[b]? = some (vp_cell cA (N1, .inr (.inr (.inr (.inr g))))) := hcb
  obtain ⟨kA, kC, m1, m2, m3⟩ := aoa_comp hA (hK.2 t0 _ ht).2 (hK.2 k0 _ hk0).2
  obtain ⟨vm', X', step⟩ := X.arraycopy hexec hown hlink hnat hstat hini (src := a) (dst := b) (cs := vp_cell cA (N0, .inr (.inr (.inr (.inr f))))) (cd := vp_cell cA (N1, .inr (.inr (.inr (.inr g))))) (srcPos := 0) (destPos := 0) (n := k) (by rw [hT]; exact hc0) (by rw [hT]; exact hc1)
    (fun _ h => by cases h) (fun _ h => by cases h) (fun h => by cases h) (fun h => by cases h) m1 m1 m2 m2 rfl (by decide) (by decide) hn0
    (by rw [nn, z1]; show ¬ _ > ((arrV cA N0 (fun j => va_rf (f j))).slots.size : Int); rw [arrV_size]; omega)
    (by rw [nn, z1]; show ¬ _ > ((arrV cA N1 (fun j => va_rf (g j))).slots.size : Int); rw [arrV_size]; omega)
    (fun vm₁ hal i hi => by
      have e : (vp_cell cA (N0, .inr (.inr (.inr (.inr f))))).slots.getD ((0 : Int32).toNatClampNeg + i) .null = va_rf (f i) := by
        rw [z0, Nat.zero_add]
        show (arrV cA N0 (fun j => va_rf (f j))).slots.getD _ _ = _
        rw [Array.getD_eq_getD_getElem?, arrV_read _ _ (by omega)]
        rfl
      rw [e]
      obtain ⟨y, N2, r, g1, g2, g3, g4⟩ := hel i hi
      have hy := rl_one hP g2 g3
      rw [g4] at hy
      rw [g1]
      obtain ⟨kC', hkC', -⟩ := hal.2.2 _ _ m3
      refine ⟨rfl, vp_cell c0 (N2, .inl r), (show T.heap[y]? = some _ by rw [hT]; exact hy), (fun q h => by cases h), ⟨kC', hkC'⟩, ?_, ?_⟩
      · exact ⟨kC', hkC'⟩
      · show vm₁.assignable _ _ = true
        rw [hal.assignable]
        exact assign_rf)
    (g := F0 m pc ls (.int k :: .int 0 :: .ref b :: .int 0 :: .ref a :: rest)) rfl (by rw [hml]) (rest := rest) rfl (by rw [hb]; exact hdg) hframes (by show 2 * 0 + _ + _ ≤ _; omega)
  have e1 : copied (vp_cell cA (N0, .inr (.inr (.inr (.inr f))))) (vp_cell cA (N1, .inr (.inr (.inr (.inr g))))) 0 0 k = vp_cell cA (N1, .inr (.inr (.inr (.inr (va_cpy f g 0 0 k.toNatClampNeg))))) := by
    rw [vp_cell_q, vp_cell_q, vp_cell_q]
    exact va_copied (fun z => va_rf z) cA cA f g (by rw [z0]; omega)
  rw [e1] at X' step
  have hl : b < H.size := (Array.getElem?_eq_some_iff.mp hc1).1
  have hat : (rl lo n w)[b - lo]? = some (b, .inl (cA, N1, .inr (.inr (.inr (.inr g))))) := by rw [rl_at h3 h4, hb2]
  generalize hC : vp_cell cA (N1, .inr (.inr (.inr (.inr (va_cpy f g 0 0 k.toNatClampNeg))))) = C at X' step
  have hheap : ((T.setVm vm').setCell b C).heap = H.setIfInBounds b C := by rw [← hT]; rfl
  have oq : ∀ q : Nat, q ≠ b → (H.setIfInBounds b C)[q]? = H[q]? := fun q hq => by simp [Array.getElem?_setIfInBounds, Ne.symm hq]
  have hq : (H.setIfInBounds b C)[b]? = some (vp_cell cA (N1, .inr (.inr (.inr (.inr (va_cpy f g 0 0 k.toNatClampNeg)))))) := by
    rw [hC]
    simp [Array.getElem?_setIfInBounds, hl]
  have hP1 : va_P D cl ((rl lo n w).set (b - lo) (b, .inl (cA, N1, .inr (.inr (.inr (.inr (va_cpy f g 0 0 k.toNatClampNeg))))))) (H.setIfInBounds b C) := hP.set (rl_D lo n w) hat hq oq
  rw [rl_set _ h3 h4] at hP1
  obtain ⟨t, a1, b1⟩ := kk _ _ hP1 ⟨by simp; exact hS.1, fun q g1 g2 => by
      rw [oq q (fun e => g2 (by rw [e]; exact h3))]
      exact hS.2.1 q g1 g2, fun q hq => by
      rcases List.mem_append.mp hq with h | h
      · exact hS.2.2 q h
      · obtain ⟨z, -, hz⟩ := List.mem_map.mp h
        rw [← hz]
        exact h3⟩ _ hheap X'
  exact ⟨t, step t a1, b1⟩
theorem vr_outer (c : ClassId) (N h0 : Nat) : ∀ i : Nat, Jvm.Free.Multi.outerC c N h0 i = arrV c N (fun j => va_rf (if j < i then some (h0 + 1 + j) else none))
  | 0 => by
    show ({ cls := c, slots := Array.replicate N .null, vm := .none } : Cell) = _
    rw [arrV_new]
    refine congrArg (arrV c N) (funext fun j => ?_)
    simp [va_rf]
  | i + 1 => by
    show (Jvm.Free.Multi.outerC c N h0 i).setSlot i (.ref (h0 + 1 + i)) = _
    rw [vr_outer c N h0 i, arrV_store]
    refine congrArg (arrV c N) (funext fun j => ?_)
    by_cases e : j = i
    · subst e
      simp [updV, va_rf]
    · by_cases h : j < i
      · simp [updV, e, h, Nat.lt_succ_of_lt h]
      · simp [updV, e, h, show ¬ j < i + 1 by omega]
/-- N rows of K made at once: the outer at lo + n, the rows behind it -/
def mnw (w : Nat → va_E) (q : Nat) (cA c0 : ClassId) (N K : Nat) : Nat → va_E := fun a => if a = q then .inl (cA, N, .inr (.inr (.inr (.inr fun i => if i < N then some (q + 1 + i) else none)))) else if q < a ∧ a < q + 1 + N then .inl (c0, K, .inl (fun _ => 0)) else w a
theorem x_mna (hexec : p.tables.exec = Jvm.exec) (hb : c.code = cc) {own : String} {index : Nat} {ty : FieldType} (hown : s.vm.findClass own = some m.cls) (hclink : (Cond.classLink own index ("[" ++ (FieldType.array ty).toString)).before args s = true) (hover : AOA ty s) (harr : (Cond.arrayClass ty).before args s = true)
    (hK : va_K D cl tys s) (hP : va_P D cl (rl lo n w) H) (hS : va_S (fun q : Nat => lo ≤ q) H0 H locs) (hlo : lo ≤ H0.size) (hz : s.heap.size + cells = lo + n) (t0 k0 : Nat) {cA c0 : ClassId} (ht : tys[t0]? = some (cA, .array ty)) (hcA : s.vm.findClass ("[" ++ (FieldType.array ty).toString) = some cA) (hc0 : s.vm.findClass (FieldType.array ty).toString = some c0) {x k : Int32} {N K : Nat} (hx : ¬ x < 0) (hk : ¬ k < 0) (hN : x.toNatClampNeg = N) (hM : k.toNatClampNeg = K)
    (hb1 : N ≤ 65536) (hb2 : K * componentBytes ty ≤ 536870912) (hb3 : K ≤ 65536) (hdf : fits ty (defaultValue ty) = true) (hdd : (defaultValue ty).isDefault = true) (hcells : cells + (1 + N) ≤ R.cells) (hslots : slots + (N + N * K) ≤ R.slots) (hin : ∀ c : ClassId, Jvm.Free.Multi.innerC c K (defaultValue ty) = vp_cell c (K, .inl (fun _ => 0))) (hdg : decode cc pc = .ok (.multianewarray index 2, 4))
    (kk : ∀ (H1 : Heap), va_P D cl (rl lo (n + 1 + N) (mnw w (lo + n) cA c0 N K)) H1 → va_S (fun q : Nat => lo ≤ q) H0 H1 locs →
      W p l e R s m args below meth c H1 locs (cells + 1 + N) (slots + N + N * K) Q (F0 m (pc + 4) ls (.ref (lo + n) :: rest))) : W p l e R s m args below meth c H locs cells slots Q (F0 m pc ls (.int k :: .int x :: rest)) := by
  subst hN
  subst hM
  refine x_size fun hz0 => ?_
  have hle : lo + n ≤ H.size ∨ n = 0 := by
    by_cases hn0 : n = 0
    · exact Or.inr hn0
    · have := (rl_one hP (a := lo + n - 1) (by omega) (by omega)).lt
      exact Or.inl (by omega)
  have hsz : H.size = lo + n := by
    have := hS.1
    omega
  intro T hT Xs
  obtain ⟨vm₁, cB, comp, -, fA, fC, hO, -, X', step⟩ := Xs.multianewarray2F hexec hown hclink hover.use harr (g := F0 m pc ls (.int k :: .int x :: rest)) rfl (by rw [hb]; exact hdg) rfl hx hk (by omega) hb2 (by omega) hdf hdd hcells hslots
  cases fC.symm.trans hc0
  cases fA.symm.trans hcA
  generalize hF : Jvm.Free.Multi.fill (T.setVm vm₁) cA c0 x.toNatClampNeg k.toNatClampNeg (defaultValue ty) x.toNatClampNeg = F at X' step
  have hTh : (T.setVm vm₁).heap = H := hT
  obtain ⟨f1, f2, -, -⟩ := Jvm.Free.Multi.fill_facts (T.setVm vm₁) cA c0 x.toNatClampNeg k.toNatClampNeg (defaultValue ty) x.toNatClampNeg
  rw [hF, hTh] at f1 f2
  have hold : ∀ y : Nat, y < H.size → F.heap[y]? = H[y]? := fun y hy => by
    have := Jvm.Free.Multi.fill_old (T.setVm vm₁) cA c0 x.toNatClampNeg k.toNatClampNeg (defaultValue ty) (a := y) (by rw [hTh]; exact hy) x.toNatClampNeg
    rw [hF, hTh] at this
    exact this
  have hrow : ∀ j : Nat, j < x.toNatClampNeg → F.heap[H.size + 1 + j]? = some (vp_cell c0 (k.toNatClampNeg, .inl (fun _ => 0))) := fun j hj => by
    have := Jvm.Free.Multi.fill_inner (T.setVm vm₁) cA c0 x.toNatClampNeg k.toNatClampNeg (defaultValue ty) x.toNatClampNeg j hj
    rw [hF, hTh, hin] at this
    exact this
  have hout : Jvm.Free.Multi.outerC cA x.toNatClampNeg H.size x.toNatClampNeg = vp_cell cA (x.toNatClampNeg, .inr (.inr (.inr (.inr (fun i => if i < x.toNatClampNeg then some (H.size + 1 + i) else none))))) := by
    rw [vp_cell_q]
    exact vr_outer cA x.toNatClampNeg H.size x.toNatClampNeg
  rw [hout] at f2
  rw [hsz] at f1 f2 hold hrow
  have hP0 : va_P D cl (rl lo n w) F.heap := hP.kept (fun k9 y hy => hold y.1 (by have := (hP k9 y hy).lt; omega))
  obtain ⟨t, a1, b1⟩ := kk F.heap (rl_P fun q g1 g2 => by
    unfold mnw
    by_cases e1 : q = lo + n
    · subst e1
      rw [if_pos rfl]
      exact f2
    · rw [if_neg e1]
      by_cases e2 : lo + n < q ∧ q < lo + n + 1 + x.toNatClampNeg
      · rw [if_pos e2]
        have := hrow (q - (lo + n + 1)) (by omega)
        rw [show lo + n + 1 + (q - (lo + n + 1)) = q by omega] at this
        exact this
      · rw [if_neg e2]
        exact rl_one hP0 g1 (by omega)) ⟨by rw [f1]; have := hS.1; omega, fun y g1 g2 => (hold y (by have := hS.1; omega)).trans (hS.2.1 y g1 g2), hS.2.2⟩ F rfl X'
  refine ⟨t, step t ?_, b1⟩
  have e : T.heap.size = lo + n := by rw [hT, hsz]
  rw [e]
  exact a1
end
/-! more rows -/
theorem nI_nn {k : Nat} (h : k < 2 ^ 31) : ¬ nI k < 0 := fun q => by
  have := (nI_ltI (a := k) (b := 0) h (by omega)).mp q
  omega
section
variable {p : Program} {l : Launch} {e : Env} {R : Room} {s : State} {m : MethodId} {args : Array Value} {below : List Frame} {meth : Method} {c : Code} {H : Heap} {locs : List Loc} {cells slots : Nat} {Q : State → Prop}
variable {cc : ByteArray} {pc : Nat} {ls : Array Slot} {rest : List Value} {D : va_G} {cl : List vw_C} {a : Nat} {tys : List (ClassId × FieldType)} {H0 : Heap} {lo n : Nat} {w : Nat → va_E}
theorem x_alenA (hexec : p.tables.exec = Jvm.exec) (hb : c.code = cc) (hK : va_K D cl tys s) (hP : va_P D cl (rl lo n w) H) (h1 : lo ≤ a) (h2 : a < lo + n) (t0 : Nat) {cA : ClassId} {t : FieldType} {N : Nat} {f : Nat → Option Nat} (ha : w a = .inl (cA, N, .inr (.inr (.inr (.inr f))))) (ht : tys[t0]? = some (cA, t)) (hdg : decode cc pc = .ok (.arraylength, 1))
    (kk : W p l e R s m args below meth c H locs cells slots Q (F0 m (pc + 1) ls (.int (nI N) :: rest))) : W p l e R s m args below meth c H locs cells slots Q (F0 m pc ls (.ref a :: rest)) := by
  have hPa := rl_one hP h1 h2
  rw [ha] at hPa
  exact W.alen (n := nI N) hexec hb hPa ((hK.2 t0 _ ht).1 N (fun j => va_rf (f j))) (by show (arrV cA N _).slots.size.toInt32 = _; rw [arrV_size]; rfl) rfl rfl hdg kk
end
section
variable {p : Program} {l : Launch} {e : Env} {R : Room} {s : State} {m : MethodId} {args : Array Value} {below : List Frame} {meth : Method} {c : Code} {H : Heap} {locs : List Loc} {cells slots : Nat} {Q : State → Prop}
variable {cc : ByteArray} {pc : Nat} {ls : Array Slot} {rest : List Value} {D : va_G} {cl : List vw_C} {a : Nat} {tys : List (ClassId × FieldType)} {H0 : Heap} {lo n : Nat} {w : Nat → va_E}
/-- another name for what is known of the run -/
theorem x_gen {v : Nat → va_E} (hP : va_P D cl (rl lo n v) H) {g : JFrame} (kk : ∀ u : Nat → va_E, u = v → va_P D cl (rl lo n u) H → W p l e R s m args below meth c H locs cells slots Q g) : W p l e R s m args below meth c H locs cells slots Q g := kk v rfl hP
end
section
variable {cy : Nat → ClassId} {w u : Nat → va_E} {A : Nat → Prop} {lo n t b d d' wo nd : Nat} {wr : Nat → Nat} {G T P : Mem}
theorem mnw_q {q : Nat} {cA c0 : ClassId} {N K : Nat} : mnw w q cA c0 N K q = .inl (cA, N, .inr (.inr (.inr (.inr fun i => if i < N then some (q + 1 + i) else none)))) := by unfold mnw; rw [if_pos rfl]
theorem mnw_r {q i : Nat} {cA c0 : ClassId} {N K : Nat} (hi : i < N) : mnw w q cA c0 N K (q + 1 + i) = .inl (c0, K, .inl (fun _ => 0)) := by unfold mnw; rw [if_neg (by omega), if_pos (by omega)]
theorem mnw_o {q a : Nat} {cA c0 : ClassId} {N K : Nat} (h : a < q ∨ q + 1 + N ≤ a) : mnw w q cA c0 N K a = w a := by unfold mnw; rw [if_neg (by omega), if_neg (by omega)]
end
/-- an answer, and the run of cells behind it -/
abbrev QxT (D : va_G) (lo n : Nat) (X : Int32 → (Nat → va_E) → Prop) : Array Value → State → Outcome → State → Prop := va_Qi (fun (r : Int32) (u : Nat → va_E) => X r u) (fun u t => va_P D vwCl (rl lo n u) t.heap) (fun q : Nat => lo ≤ q)
section
variable {p : Program} {l : Launch} {e : Env} {R : Room} {s : State} {m : MethodId} {args : Array Value} {below : List Frame} {meth : Method} {c : Code} {H : Heap} {locs : List Loc} {cells slots : Nat} {Q : State → Prop}
variable {pc : Nat} {ls : Array Slot} {rest st0 : List Value} {a : Array Value} {D : va_G} {H0 : Heap} {lo n : Nat} {mc ms : Nat}
theorem x_callx {X : Int32 → (Nat → va_E) → Prop} (hr : va_Run p l e R s m args below meth c H locs cells slots mc ms (F0 m pc ls st0) rest (QxT D lo n X a) (fun q : Nat => lo ≤ q)) (hS : va_S (fun q : Nat => lo ≤ q) H0 H locs)
    (kk : ∀ (v : Int32) (u : Nat → va_E) (H1 : Heap) (locs1 : List Loc), X v u → va_P D vwCl (rl lo n u) H1 → va_S (fun q : Nat => lo ≤ q) H0 H1 locs1 → W p l e R s m args below meth c H1 locs1 (cells + mc) (slots + ms) Q (F0 m (pc + 3) ls (.int v :: rest))) : W p l e R s m args below meth c H locs cells slots Q (F0 m pc ls st0) :=
  va_calli hr hS (fun _ _ h => h) (fun _ h => h) fun r u t H1 locs1 ht hvm hw hB _ _ hS1 => kk r u H1 locs1 hw (by rw [← ht]; exact hB) hS1
end
section
variable {p : Program} {l : Launch} {e : Env} {R : Room} {s : State} {m : MethodId} {args : Array Value} {below : List Frame} {meth : Method} {c : Code} {H : Heap} {locs : List Loc} {cells slots : Nat} {Q : State → Prop}
variable {cc : ByteArray} {pc : Nat} {ls : Array Slot} {rest st0 : List Value} {D : va_G} {cy : Nat → ClassId} {cl : List vw_C} {a : Nat} {av : Array Value} {tys : List (ClassId × FieldType)} {H0 : Heap} {lo n n1 mc ms : Nat} {w : Nat → va_E}
theorem xu_xu {α : Type} {w : Nat → α} {a : Nat} {e e' : α} : va_up (va_up w a e) a e' = va_up w a e' := xu_uu w a e e'
/-- what is known of a computed number -/
theorem x_top {v v' : Int32} (h : v = v') (kk : W p l e R s m args below meth c H locs cells slots Q (F0 m pc ls (.int v' :: rest))) : W p l e R s m args below meth c H locs cells slots Q (F0 m pc ls (.int v :: rest)) := by
  rw [h]; exact kk
theorem x_topl {v v' : Int64} (h : v = v') (kk : W p l e R s m args below meth c H locs cells slots Q (F0 m pc ls (.long v' :: rest))) : W p l e R s m args below meth c H locs cells slots Q (F0 m pc ls (.long v :: rest)) := by
  rw [h]; exact kk
theorem x_newz (hexec : p.tables.exec = Jvm.exec) (hb : c.code = cc) (harr : (Cond.arrayClass (newarray.typeOf .boolean)).before args s = true) (hK : va_K D cl tys s) (hP : va_P D cl (rl lo n w) H) (hS : va_S (fun q : Nat => lo ≤ q) H0 H locs) (hlo : lo ≤ H0.size) (hz : s.heap.size + cells = lo + n)
    {k : Int32} {N : Nat} (t0 : Nat) {cA : ClassId} (ht : tys[t0]? = some (cA, .boolean)) (hn : ¬ k < 0) (hN : k.toNatClampNeg = N) (hbytes : N ≤ 65536) (hcells : cells + 1 ≤ R.cells) (hslots : slots + N ≤ R.slots) (hdg : decode cc pc = .ok (.newarray .boolean, 2))
    (kk : ∀ (H1 : Heap), va_P D cl (rl lo (n + 1) (va_up w (lo + n) (.inl (cA, N, .inl (fun _ => 0))))) H1 → va_S (fun q : Nat => lo ≤ q) H0 H1 locs →
      W p l e R s m args below meth c H1 locs (cells + 1) (slots + N) Q (F0 m (pc + 2) ls (.ref (lo + n) :: rest))) : W p l e R s m args below meth c H locs cells slots Q (F0 m pc ls (.int k :: rest)) := by
  refine va_newa (atype := .boolean) (ty := .boolean) (a0 := (N, .inl (fun _ => 0))) hexec hb harr rfl hK hP (rl_D lo n w) hS (fun q h => Nat.le_trans hlo h) (fun _ => rfl) hn hN (by show N * 1 ≤ _; omega) hcells hslots hdg fun q cB H1 hK1 hP1 hD1 hS1 => ?_
  refine x_size fun hz1 => ?_
  obtain rfl := x_q (by omega) hP1 hD1
  have hcB : cB = cA := by
    have h1 := (hK1.2 tys.length (cB, .boolean) (by simp)).2
    have h2 := (hK.2 t0 _ ht).2
    exact Option.some.inj (Eq.trans (Eq.symm h1) h2)
  subst hcB
  rw [rl_push] at hP1
  exact kk H1 hP1 hS1
theorem x_newl (hexec : p.tables.exec = Jvm.exec) (hb : c.code = cc) (harr : (Cond.arrayClass (newarray.typeOf .long)).before args s = true) (hK : va_K D cl tys s) (hP : va_P D cl (rl lo n w) H) (hS : va_S (fun q : Nat => lo ≤ q) H0 H locs) (hlo : lo ≤ H0.size) (hz : s.heap.size + cells = lo + n)
    {k : Int32} {N : Nat} (t0 : Nat) {cA : ClassId} (ht : tys[t0]? = some (cA, .long)) (hn : ¬ k < 0) (hN : k.toNatClampNeg = N) (hbytes : N ≤ 65536) (hcells : cells + 1 ≤ R.cells) (hslots : slots + N ≤ R.slots) (hdg : decode cc pc = .ok (.newarray .long, 2))
    (kk : ∀ (H1 : Heap), va_P D cl (rl lo (n + 1) (va_up w (lo + n) (.inl (cA, N, .inr (.inl (fun _ => 0)))))) H1 → va_S (fun q : Nat => lo ≤ q) H0 H1 locs →
      W p l e R s m args below meth c H1 locs (cells + 1) (slots + N) Q (F0 m (pc + 2) ls (.ref (lo + n) :: rest))) : W p l e R s m args below meth c H locs cells slots Q (F0 m pc ls (.int k :: rest)) := by
  refine va_newa (atype := .long) (ty := .long) (a0 := (N, .inr (.inl (fun _ => 0)))) hexec hb harr rfl hK hP (rl_D lo n w) hS (fun q h => Nat.le_trans hlo h) (fun _ => rfl) hn hN (by show N * 8 ≤ _; omega) hcells hslots hdg fun q cB H1 hK1 hP1 hD1 hS1 => ?_
  refine x_size fun hz1 => ?_
  obtain rfl := x_q (by omega) hP1 hD1
  have hcB : cB = cA := by
    have h1 := (hK1.2 tys.length (cB, .long) (by simp)).2
    have h2 := (hK.2 t0 _ ht).2
    exact Option.some.inj (Eq.trans (Eq.symm h1) h2)
  subst hcB
  rw [rl_push] at hP1
  exact kk H1 hP1 hS1
theorem x_lald (hexec : p.tables.exec = Jvm.exec) (hb : c.code = cc) (hK : va_K D cl tys s) (hP : va_P D cl (rl lo n w) H) (h1 : lo ≤ a) (h2 : a < lo + n) (t0 : Nat) {cA : ClassId} {N : Nat} {f : Nat → Int64} (ha : w a = .inl (cA, N, .inr (.inl f))) (ht : tys[t0]? = some (cA, .long)) {x : Int32} {i : Nat} (hi : x.toNatClampNeg = i) (hin : vp_in x N) (hdg : decode cc pc = .ok (.laload, 1))
    (kk : W p l e R s m args below meth c H locs cells slots Q (F0 m (pc + 1) ls (.long (f i) :: rest))) : W p l e R s m args below meth c H locs cells slots Q (F0 m pc ls (.int x :: .ref a :: rest)) := by
  subst hi
  exact va_lald hexec hb hK hP (a - lo) t0 (by rw [rl_at h1 h2, ha]) ht hin hdg kk
theorem x_last (hexec : p.tables.exec = Jvm.exec) (hb : c.code = cc) (hK : va_K D cl tys s) (hP : va_P D cl (rl lo n w) H) (hS : va_S (fun q : Nat => lo ≤ q) H0 H locs) (h1 : lo ≤ a) (h2 : a < lo + n) (t0 : Nat) {cA : ClassId} {N : Nat} {f : Nat → Int64} (ha : w a = .inl (cA, N, .inr (.inl f))) (ht : tys[t0]? = some (cA, .long)) {x : Int32} {v : Int64} {i : Nat} (hi : x.toNatClampNeg = i) (hin : vp_in x N) (hdg : decode cc pc = .ok (.lastore, 1))
    (kk : ∀ (H1 : Heap) (locs1 : List Loc), va_P D cl (rl lo n (va_up w a (.inl (cA, N, .inr (.inl (vp_updL f i v)))))) H1 → va_S (fun q : Nat => lo ≤ q) H0 H1 locs1 → W p l e R s m args below meth c H1 locs1 cells slots Q (F0 m (pc + 1) ls rest)) : W p l e R s m args below meth c H locs cells slots Q (F0 m pc ls (.long v :: .int x :: .ref a :: rest)) := by
  subst hi
  exact va_last hexec hb hK hP (rl_D lo n w) hS (a - lo) t0 (by rw [rl_at h1 h2, ha]) ht hin hdg fun H1 locs1 hP _ hS => kk H1 locs1 (by rw [rl_set _ h1 h2] at hP; exact hP) hS
theorem x_szn {g : JFrame} (hz : s.heap.size + cells = lo + n) (h0 : 0 < n) (hP : va_P D cl (rl lo n w) H) (kk : H.size = lo + n → W p l e R s m args below meth c H locs cells slots Q g) : W p l e R s m args below meth c H locs cells slots Q g := by
  obtain ⟨k, rfl⟩ : ∃ k, n = k + 1 := ⟨n - 1, by omega⟩
  exact x_sz hz hP kk
theorem x_callN {X : (Nat → va_E) → Prop} (hr : va_Run p l e R s m args below meth c H locs cells slots mc ms (F0 m pc ls st0) rest (va_Qv (fun (u : Nat → va_E) => X u) (fun u tE => va_P D vwCl (rl lo n1 u) tE.heap ∧ tE.heap.size = lo + n1) (fun q : Nat => lo ≤ q) av) (fun q : Nat => lo ≤ q)) (hS : va_S (fun q : Nat => lo ≤ q) H0 H locs)
    (kk : ∀ (u : Nat → va_E) (H1 : Heap) (locs1 : List Loc), X u → va_P D vwCl (rl lo n1 u) H1 → H1.size = lo + n1 → va_S (fun q : Nat => lo ≤ q) H0 H1 locs1 → W p l e R s m args below meth c H1 locs1 (cells + mc) (slots + ms) Q (F0 m (pc + 3) ls rest)) : W p l e R s m args below meth c H locs cells slots Q (F0 m pc ls st0) :=
  va_callv hr hS (fun _ _ h => h) (fun _ h => h) fun u t H1 locs1 ht hvm hw hB _ _ hS1 => kk u H1 locs1 hw (by rw [← ht]; exact hB.1) (by rw [← ht]; exact hB.2) hS1
end
