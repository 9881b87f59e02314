/-! the law: what its walk stands on -/
section
variable {p : Program} {l : Launch} {e : Env} {R : Room} {s : State} {m : MethodId} {args : Array Value} {below : List Frame} {meth : Method} {c : Code} {H : Heap} {locs : List Loc} {cells slots : Nat} {Q : State → Prop}
variable {cc : ByteArray} {pc : Nat} {ls : Array Slot} {rest st0 : List Value} {av : Array Value} {D : va_G} {cy : Nat → ClassId} {H0 : Heap} {lo n n1 o t mc ms : Nat} {w : Nat → va_E}
/-- an int of the script -/
theorem x_sld (hexec : p.tables.exec = Jvm.exec) (hb : c.code = cc) {b L : Nat} {xs : Nat → Int32} (hX : va_X b L xs s H0) (hbs : b < H0.size) (hbl : b < lo) (hS : va_S (fun q : Nat => lo ≤ q) H0 H locs) {x : Int32} {i : Nat} (hi : x.toNatClampNeg = i) (hin : vp_in x L) (hdg : decode cc pc = .ok (.iaload, 1))
    (kk : W p l e R s m args below meth c H locs cells slots Q (F0 m (pc + 1) ls (.int (xs i) :: rest))) : W p l e R s m args below meth c H locs cells slots Q (F0 m pc ls (.int x :: .ref b :: rest)) := by
  subst hi
  exact va_sld hexec hb hX hbs (by show ¬ lo ≤ b; omega) hS hin hdg kk
/-- a call of a law's own method that catches -/
theorem x_callY {S : Int32 × Int32} (hr : va_Run p l e R s m args below meth c H locs cells slots mc ms (F0 m pc ls st0) rest (QY D cy lo n o t w S av) (fun q : Nat => lo ≤ q)) (hS : va_S (fun q : Nat => lo ≤ q) H0 H locs)
    (kk : ∀ (u : Nat → va_E) (H1 : Heap) (locs1 : List Loc), (∃ f : Nat → Int64, u t = .inl (cy 7, 1, .inr (.inl f)) ∧ (S.1 = 0 → f 0 = S.2.toInt64)) → (∀ a, (a < o ∨ o + 118 ≤ a) → a ≠ t → u a = w a) → va_P D vwCl (rl lo n u) H1 → (S.1 = 0 → H1.size = lo + n) → va_S (fun q : Nat => lo ≤ q) H0 H1 locs1 → W p l e R s m args below meth c H1 locs1 (cells + mc) (slots + ms) Q (F0 m (pc + 3) ls (.int S.1 :: rest))) : W p l e R s m args below meth c H locs cells slots Q (F0 m pc ls st0) :=
  va_calli hr hS (fun _ _ h => h) (fun _ h => h) fun r u tE H1 locs1 ht hvm hw hB _ _ hS1 => by
    obtain ⟨rfl, hf, hu⟩ := hw
    exact kk u H1 locs1 hf hu (by rw [← ht]; exact hB.1) (by rw [← ht]; exact hB.2) hS1
theorem x_calllN {X : Int64 → (Nat → va_E) → Prop} (hr : va_Run p l e R s m args below meth c H locs cells slots mc ms (F0 m pc ls st0) rest (va_Ql (fun (r : Int64) (u : Nat → va_E) => X r u) (fun u tE => va_P D vwCl (rl lo n1 u) tE.heap ∧ tE.heap.size = lo + n1) (fun q : Nat => lo ≤ q) av) (fun q : Nat => lo ≤ q)) (hS : va_S (fun q : Nat => lo ≤ q) H0 H locs)
    (kk : ∀ (v : Int64) (u : Nat → va_E) (H1 : Heap) (locs1 : List Loc), X v u → va_P D vwCl (rl lo n1 u) H1 → H1.size = lo + n1 → va_S (fun q : Nat => lo ≤ q) H0 H1 locs1 → W p l e R s m args below meth c H1 locs1 (cells + mc) (slots + ms) Q (F0 m (pc + 3) ls (.long v :: rest))) : W p l e R s m args below meth c H locs cells slots Q (F0 m pc ls st0) :=
  va_calll hr hS (fun _ _ h => h) (fun _ h => h) fun r u t H1 locs1 ht hvm hw hB _ _ hS1 => kk r u H1 locs1 hw (by rw [← ht]; exact hB.1) (by rw [← ht]; exact hB.2) hS1
theorem x_calldW {v : UInt64} {w' : Nat → va_E} (hr : va_Run p l e R s m args below meth c H locs cells slots mc ms (F0 m pc ls st0) rest (QdW D lo n w' v av) (fun q : Nat => lo ≤ q)) (hS : va_S (fun q : Nat => lo ≤ q) H0 H locs)
    (kk : ∀ (H1 : Heap) (locs1 : List Loc), va_P D vwCl (rl lo n w') H1 → va_S (fun q : Nat => lo ≤ q) H0 H1 locs1 → W p l e R s m args below meth c H1 locs1 (cells + mc) (slots + ms) Q (F0 m (pc + 3) ls (.double v :: rest))) : W p l e R s m args below meth c H locs cells slots Q (F0 m pc ls st0) :=
  va_calld hr hS (fun _ _ h => h) (fun _ h => h) fun r u t H1 locs1 ht hvm hw hB _ _ hS1 => by
    subst hw
    exact kk H1 locs1 (by rw [← ht]; exact hB) hS1
theorem x_calldT {X : UInt64 → (Nat → va_E) → Prop} (hr : va_Run p l e R s m args below meth c H locs cells slots mc ms (F0 m pc ls st0) rest (va_Qd (fun (r : UInt64) (u : Nat → va_E) => X r u) (fun u tE => va_P D vwCl (rl lo n u) tE.heap) (fun q : Nat => lo ≤ q) av) (fun q : Nat => lo ≤ q)) (hS : va_S (fun q : Nat => lo ≤ q) H0 H locs)
    (kk : ∀ (v : UInt64) (u : Nat → va_E) (H1 : Heap) (locs1 : List Loc), X v u → va_P D vwCl (rl lo n u) H1 → va_S (fun q : Nat => lo ≤ q) H0 H1 locs1 → W p l e R s m args below meth c H1 locs1 (cells + mc) (slots + ms) Q (F0 m (pc + 3) ls (.double v :: rest))) : W p l e R s m args below meth c H locs cells slots Q (F0 m pc ls st0) :=
  va_calld hr hS (fun _ _ h => h) (fun _ h => h) fun r u t H1 locs1 ht hvm hw hB _ _ hS1 => kk r u H1 locs1 hw (by rw [← ht]; exact hB) hS1
/-- is it another than 0 -/
def bz (x : Int32) : Int32 := if x = 0 then 0 else 1
def bl (x : Int32) : Int64 := if x = 0 then 0 else 1
theorem bz_01 {x : Int32} : bz x = 0 ∨ bz x = 1 := by
  unfold bz
  split
  · exact Or.inl rfl
  · exact Or.inr rfl
theorem bl_ok {v r : Int32} {x : Int64} (h1 : v = r) (h2 : x = r.toInt64) (h3 : r = 0 ∨ r = 1) : bl v = x := by
  subst h1
  subst h2
  rcases h3 with rfl | rfl <;> rfl
theorem x_bz (hexec : p.tables.exec = Jvm.exec) (hb : c.code = cc) {x : Int32} (d0 : decode cc pc = .ok (.ifCond .eq 7, 3)) (d1 : decode cc (pc + 3) = .ok (.iconst 1, 1)) (d2 : decode cc (pc + 4) = .ok (.goto 4, 3)) (d3 : decode cc (pc + 7) = .ok (.iconst 0, 1))
    (kk : W p l e R s m args below meth c H locs cells slots Q (F0 m (pc + 8) ls (.int (bz x) :: rest))) : W p l e R s m args below meth c H locs cells slots Q (F0 m pc ls (.int x :: rest)) := by
  refine lv_if_eq (tgt := pc + 7) hexec hb d0 (by omega) (fun h => ?_) (fun h => ?_)
  · refine lv_iconst (v := 0) hexec hb d3 (by decide) ?_
    rw [show bz x = 0 from if_pos h] at kk
    exact kk
  · refine lv_iconst (v := 1) hexec hb d1 (by decide) ?_
    refine lv_goto (tgt := pc + 8) hexec hb d2 (by omega) ?_
    rw [show bz x = 1 from if_neg h] at kk
    exact kk
theorem x_bl (hexec : p.tables.exec = Jvm.exec) (hb : c.code = cc) {x : Int32} (d0 : decode cc pc = .ok (.ifCond .eq 7, 3)) (d1 : decode cc (pc + 3) = .ok (.lconst 1, 1)) (d2 : decode cc (pc + 4) = .ok (.goto 4, 3)) (d3 : decode cc (pc + 7) = .ok (.lconst 0, 1))
    (kk : W p l e R s m args below meth c H locs cells slots Q (F0 m (pc + 8) ls (.long (bl x) :: rest))) : W p l e R s m args below meth c H locs cells slots Q (F0 m pc ls (.int x :: rest)) := by
  refine lv_if_eq (tgt := pc + 7) hexec hb d0 (by omega) (fun h => ?_) (fun h => ?_)
  · refine lv_lconst (v := 0) hexec hb d3 (by decide) ?_
    rw [show bl x = 0 from if_pos h] at kk
    exact kk
  · refine lv_lconst (v := 1) hexec hb d1 (by decide) ?_
    refine lv_goto (tgt := pc + 8) hexec hb d2 (by omega) ?_
    rw [show bl x = 1 from if_neg h] at kk
    exact kk
end
theorem cmp_rf (x : Int64) : lg_cmp x x = 0 := (lg_cmp_eq x x).mpr rfl
theorem mpv_c : Op.cmpValue (FP.dcmp MPV MPV) .l = 0 := by decide +kernel
theorem fault_2 {x y z : Int32} : (r_fault x y z).2 = 0 ∨ (r_fault x y z).2 = 1 := by
  unfold r_fault
  split <;> exact Or.inl rfl
theorem test_2 {x : Int32} : (r_test x).2 = 0 ∨ (r_test x).2 = 1 := Or.inl rfl
theorem and31 (x : Int32) : ∃ k, k < 32 ∧ x &&& 31 = nI k := by
  refine ⟨(x.toBitVec &&& 31#32).toNat, ?_, ?_⟩
  · rw [BitVec.toNat_and]
    exact Nat.lt_of_le_of_lt Nat.and_le_right (by decide)
  · refine Int32.toBitVec_inj.mp ?_
    rw [Int32.toBitVec_and]
    show _ = BitVec.ofNat 32 _
    rw [BitVec.ofNat_toNat, BitVec.setWidth_eq]
    rfl
section
variable {cy : Nat → ClassId} {w u : Nat → va_E} {o : Nat} {G T P : Mem}
theorem pq_in {a : Nat} (h1 : o ≤ a) (h2 : a < o + 118) : pw cy u o G T P a = pw cy w o G T P a := by
  have gi : ∀ (v : Nat → va_E) (g : Nat) (M : Mem), g ≤ a ∧ a < g + 49 → gw cy v g M a = gEr cy g (a - g) (M (a - g)) := fun v g M h => if_pos h
  have go : ∀ (v : Nat → va_E) (g : Nat) (M : Mem), ¬ (g ≤ a ∧ a < g + 49) → gw cy v g M a = v a := fun v g M h => if_neg h
  show gw cy (gw cy (hw cy u o P) (o + 50) T) (o + 1) G a = gw cy (gw cy (hw cy w o P) (o + 50) T) (o + 1) G a
  by_cases k1 : o + 1 ≤ a ∧ a < o + 1 + 49
  · exact (gi _ _ _ k1).trans (gi _ _ _ k1).symm
  · refine (go _ _ _ k1).trans (Eq.trans ?_ (go _ _ _ k1).symm)
    by_cases k2 : o + 50 ≤ a ∧ a < o + 50 + 49
    · exact (gi _ _ _ k2).trans (gi _ _ _ k2).symm
    · refine (go _ _ _ k2).trans (Eq.trans ?_ (go _ _ _ k2).symm)
      unfold hw
      rw [if_pos ⟨h1, h2⟩, if_pos ⟨h1, h2⟩]
theorem pq_ext (h : ∀ a, o ≤ a → a < o + 118 → u a = pw cy w o G T P a) : pw cy u o G T P = u := by
  funext a
  by_cases k : o ≤ a ∧ a < o + 118
  · exact (pq_in k.1 k.2).trans (h a k.1 k.2).symm
  · exact (gw_out (by omega)).trans ((gw_out (by omega)).trans (hw_out (by omega)))
end
/-- what every stretch of the law stands on -/
def LC (D : va_G) (cy : Nat → ClassId) (p : Program) (s : State) (m : MethodId) (c : Code) (b L : Nat) (xs : Nat → Int32) (lo : Nat) : Prop :=
  p.tables.exec = Jvm.exec ∧ c.code = cL_law ∧ c.maxLocals = 9 ∧ s.vm.findClass RL = some m.cls ∧ (∀ w ∈ wsL_law, w.before #[Value.ref b] s = true) ∧ (∀ w ∈ lw_tbl, w.before #[Value.ref b] s = true) ∧ KI D cy s ∧ XK s ∧ ZQ (fun q : Nat => lo ≤ q) s s.heap ∧ YK s ∧ va_X b L xs s s.heap ∧ b < s.heap.size ∧ lo = s.heap.size
/-- a new object of the class, a new reckoner, the answers' array -/
def IV (cy : Nat → ClassId) (w : Nat → va_E) (lo n o q t : Nat) : Prop :=
  o = lo ∧ q = lo + 118 ∧ t = lo + 140 ∧ n = 141 ∧ pw cy w o G0 G0 P0 = w ∧ MM cy w q 0 5 0 0 0 ∧ LB cy w q ∧ FM cy w (q + 1) 0 300 ∧ w t = .inl (cy 7, 1, .inr (.inl fun _ => 0))
theorem gT_X6_digest : GoodIn lw_tbl (wsV RL 183 RX6 yX6_digest wsX6_digest) := goodIn_app (goodIn_sub (in_tbl [388, 389, 390, 33] (by decide +kernel)) (by decide +kernel)) ggT_X6_digest
theorem gT_X8_digest : GoodIn lw_tbl (wsV RL 187 RX8 yX8_digest wsX8_digest) := goodIn_app (goodIn_sub (in_tbl [1040, 1041, 1042, 40] (by decide +kernel)) (by decide +kernel)) ggT_X8_digest
