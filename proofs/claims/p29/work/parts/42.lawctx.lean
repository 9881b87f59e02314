/-! the law: what it stands on, and two Tolds that are alike -/
section
variable {p : Program} {l : Launch} {e : Env} {R : Room} {s : State} {m : MethodId} {args : Array Value} {below : List Frame} {meth : Method} {c : Code} {H : Heap} {locs : List Loc} {cells slots : Nat} {Q : State → Prop}
variable {cc : ByteArray} {pc : Nat} {ls : Array Slot} {rest st0 : List Value} {a : Array Value} {D : va_G} {cl : List vw_C} {tys : List (ClassId × FieldType)} {H0 : Heap} {lo n n1 : Nat} {w : Nat → va_E} {mc ms : Nat}
/-- a new object right behind all there is -/
theorem x_newZ (hexec : p.tables.exec = Jvm.exec) (hb : c.code = cc) {own C : String} {T : u_T} {N ci index : Nat} {Ts : List Cond} (hts : ∀ w ∈ Ts, w.before args s = true) (hin : ∀ w ∈ u_ws C T N, w ∈ Ts) (ty : Nat → FieldType) (hty : ∀ k, k < N → parseFieldDescriptor (T k).2.2.1 = some (ty k)) (hown : s.vm.findClass own = some m.cls) (hcl : (Cond.classLink own index C).before args s = true) (hinst : (Cond.instantiable C N).before args s = true) (hini : (Cond.initialized C).before args s = true)
    (hK : va_K D cl tys s) (hP : va_P D cl (rl lo n w) H) (hS : va_S (fun q : Nat => lo ≤ q) H0 H locs) (hz : H.size = lo + n) {q0 : Nat} (hq : q0 = lo + n) (hc : cl[ci]? = some (C, T, N)) {fs : List Value} (hfs : ∀ j, j < N → defaultValue (ty j) = vp_V fs j) (hcells : cells + 1 ≤ R.cells) (hslots : slots + N ≤ R.slots) (hdg : decode cc pc = .ok (.new index, 3))
    (kk : ∀ (H1 : Heap), H1.size = lo + (n + 1) → va_P D cl (rl lo (n + 1) (va_up w q0 (.inr (ci, fs)))) H1 → va_S (fun q : Nat => lo ≤ q) H0 H1 locs →
      W p l e R s m args below meth c H1 locs (cells + 1) (slots + N) Q (F0 m (pc + 3) ls (.ref q0 :: rest))) : W p l e R s m args below meth c H locs cells slots Q (F0 m pc ls rest) := by
  subst hq
  have hKn := hK.1 ci _ hc
  refine W.newcK hexec hb hown hcl hinst hini rfl hdg hcells hslots hKn.2.1 hz fun H1 kC hkC e1 z1 o1 => ?_
  have hk : ∀ (k : Nat) (x : Nat × va_E), (rl lo n w)[k]? = some x → H1[x.1]? = H[x.1]? := fun k x hx => o1 x.1 (by have := (hP k x hx).lt; omega)
  refine kk H1 (by omega) (rl_P fun q g1 g2 => ?_) ⟨by have := hS.1; omega, fun x h1 h2 => (o1 x (by have := hS.1; omega)).trans (hS.2.1 x h1 h2), hS.2.2⟩
  by_cases e : q = lo + n
  · subst e
    rw [xu_same]
    exact ⟨_, hc, (u_born ty hts hin hKn hkC e1 hty).to hfs⟩
  · rw [xu_ne e]
    exact rl_one (hP.kept hk) g1 (by omega)
theorem x_callN {X : (Nat → va_E) → Prop} (hr : va_Run p l e R s m args below meth c H locs cells slots mc ms (F0 m pc ls st0) rest (va_Qv (fun (u : Nat → va_E) => X u) (fun u tE => va_P D vwCl (rl lo n1 u) tE.heap ∧ tE.heap.size = lo + n1) (fun q : Nat => lo ≤ q) a) (fun q : Nat => lo ≤ q)) (hS : va_S (fun q : Nat => lo ≤ q) H0 H locs)
    (kk : ∀ (u : Nat → va_E) (H1 : Heap) (locs1 : List Loc), X u → va_P D vwCl (rl lo n1 u) H1 → H1.size = lo + n1 → va_S (fun q : Nat => lo ≤ q) H0 H1 locs1 → W p l e R s m args below meth c H1 locs1 (cells + mc) (slots + ms) Q (F0 m (pc + 3) ls rest)) : W p l e R s m args below meth c H locs cells slots Q (F0 m pc ls st0) :=
  va_callv hr hS (fun _ _ h => h) (fun _ h => h) fun u t H1 locs1 ht hvm hw hB _ _ hS1 => kk u H1 locs1 hw (by rw [← ht]; exact hB.1) (by rw [← ht]; exact hB.2) hS1
/-- the script lies below the run, also where the run began later -/
theorem x_scrH {b L : Nat} {xs : Nat → Int32} (hX : va_X b L xs s H0) (hbl : b < lo) (hS : va_S (fun q : Nat => lo ≤ q) H0 H locs) : va_X b L xs s H :=
  hX.kept (hS.2.1 b (by obtain ⟨scr, h, -⟩ := hX; exact (Array.getElem?_eq_some_iff.mp h).1) (by omega))
end
theorem cmp_rf (x : Int64) : lg_cmp x x = 0 := (lg_cmp_eq x x).mpr rfl
theorem inlX7 : ∀ w ∈ u_ws RX7 TX7 13, w ∈ wsL_law := fun _ h => List.mem_append_left _ (List.mem_append_left _ (List.mem_append_left _ (List.mem_append_left _ (List.mem_append_left _ (List.mem_append_left _ (List.mem_append_left _ (List.mem_append_left _ (List.mem_append_left _ (List.mem_append_left _ (List.mem_append_left _ (List.mem_append_right _ h)))))))))))
/-- what every stretch of the law stands on -/
def LC (D : va_G) (cy : Nat → ClassId) (p : Program) (s : State) (m : MethodId) (c : Code) (b L : Nat) : Prop :=
  p.tables.exec = Jvm.exec ∧ c.code = cL_law ∧ c.maxLocals = 17 ∧ s.vm.findClass RL = some m.cls ∧ (∀ w ∈ wsL_law, w.before #[Value.ref b] s = true) ∧ KI D cy s ∧ L ≤ 260
section
variable {cy : Nat → ClassId} {w u v : Nat → va_E} {A A2 : Nat → Prop} {lo n t o b d d2 d' wo wo2 : Nat} {wr wr2 : Nat → Nat} {G T T2 P G' T' P' : Mem}
/-- t and o: alike but for what was tried and how many draws -/
def LI (cy : Nat → ClassId) (w : Nat → va_E) (A A2 : Nat → Prop) (lo n t o b d d2 wo : Nat) (wr : Nat → Nat) (wo2 : Nat) (wr2 : Nat → Nat) (G T T2 P : Mem) : Prop :=
  TW cy w A lo n t b d wo wr 3 G T P ∧ TW cy w A2 lo n o b d2 wo2 wr2 3 G T2 P ∧ (∀ a, A a → ¬ A2 a) ∧ GI 3 G ∧ PB 3 P
theorem LI.g (h : LI cy w A A2 lo n t o b d d2 wo wr wo2 wr2 G T T2 P) : GI 3 G := h.2.2.2.1
theorem LI.pb (h : LI cy w A A2 lo n t o b d d2 wo wr wo2 wr2 G T T2 P) : PB 3 P := h.2.2.2.2
theorem LI.no (h : LI cy w A A2 lo n t o b d d2 wo wr wo2 wr2 G T T2 P) {a : Nat} (ha : A2 a) : ¬ A a := fun q => h.2.2.1 a q ha
theorem LI.setT (h : LI cy w A A2 lo n t o b d d2 wo wr wo2 wr2 G T T2 P) (hT : TW cy u A lo n t b d' wo wr 3 G T' P) (hF : Fr A w u) : LI cy u A A2 lo n t o b d' d2 wo wr wo2 wr2 G T' T2 P :=
  ⟨hT, h.2.1.frame (fun a ha => hF a (h.no ha)), h.2.2⟩
theorem LI.setO (h : LI cy w A A2 lo n t o b d d2 wo wr wo2 wr2 G T T2 P) (hT : TW cy u A2 lo n o b d' wo2 wr2 3 G T' P) (hF : Fr A2 w u) : LI cy u A A2 lo n t o b d d' wo wr wo2 wr2 G T T' P :=
  ⟨h.1.frame (fun a ha => hF a (h.2.2.1 a ha)), hT, h.2.2⟩
theorem TW.ask (h : TW cy w A lo n t b d wo wr 3 G T P) : TW cy (pw cy w (t + 1) G T' P) A lo n t b d wo wr 3 G T' P := h.fld rfl (fun _ _ => ⟨rfl, rfl⟩) (fun _ _ => ⟨rfl, rfl, rfl, rfl, rfl⟩) (fun _ _ => rfl)
theorem LI.askT (h : LI cy w A A2 lo n t o b d d2 wo wr wo2 wr2 G T T2 P) : LI cy (pw cy w (t + 1) G T' P) A A2 lo n t o b d d2 wo wr wo2 wr2 G T' T2 P := h.setT h.1.ask h.1.fr_fld
theorem LI.askO (h : LI cy w A A2 lo n t o b d d2 wo wr wo2 wr2 G T T2 P) : LI cy (pw cy w (o + 1) G T' P) A A2 lo n t o b d d2 wo wr wo2 wr2 G T T' P := h.setO h.2.1.ask h.2.1.fr_fld
theorem LI.drT (h : LI cy w A A2 lo n t o b d d2 wo wr wo2 wr2 G T T2 P) : LI cy (va_up w t (.inr (7, tF t b d' wo (G 0 4)))) A A2 lo n t o b d' d2 wo wr wo2 wr2 G T T2 P := h.setT h.1.dr h.1.fr_dr
theorem LI.drO (h : LI cy w A A2 lo n t o b d d2 wo wr wo2 wr2 G T T2 P) : LI cy (va_up w o (.inr (7, tF o b d' wo2 (G 0 4)))) A A2 lo n t o b d d' wo wr wo2 wr2 G T T2 P := h.setO h.2.1.dr h.2.1.fr_dr
/-- o's cells as t's calls leave them, where o's own field has been told otherwise -/
theorem LI.tAt (h : LI cy w A A2 lo n t o b d d2 wo wr wo2 wr2 G T T2 P) : TW cy (pw cy w (o + 1) G' T' P') A lo n t b d wo wr 3 G T P := h.1.frame (fun a ha => h.2.1.fr_fld a (h.2.2.1 a ha))
theorem LI.oAt (h : LI cy w A A2 lo n t o b d d2 wo wr wo2 wr2 G T T2 P) : TW cy (pw cy w (t + 1) G' T' P') A2 lo n o b d2 wo2 wr2 3 G T2 P := h.2.1.frame (fun a ha => h.1.fr_fld a (h.no ha))
/-- the wells' rows lose what is due, one by one: j of them have -/
def SR (cy : Nat → ClassId) (w v : Nat → va_E) (A : Nat → Prop) (t : Nat) (wr : Nat → Nat) (G' T' P' : Mem) (j : Nat) : Prop :=
  (pw cy v (t + 1) G' T' P' = v) ∧ (∀ a, A a → (a < t + 1 ∨ t + 119 ≤ a) → (∀ i, i < 3 → a ≠ wr i) → v a = w a) ∧ (∀ i, i < 3 → ∃ r : Nat → Int32, w (wr i) = .inl (cy 0, 14, .inl r) ∧ v (wr i) = .inl (cy 0, 14, .inl (if i < j then upd r 13 0 else r)))
theorem SR.start (h : TW cy w A lo n t b d wo wr 3 G T P) (hp : pw cy v (t + 1) G' T' P' = v) (hv : ∀ a, A a → (a < t + 1 ∨ t + 119 ≤ a) → v a = w a) : SR cy w v A t wr G' T' P' 0 := by
  refine ⟨hp, fun a h1 h2 _ => hv a h1 h2, fun i hi => ?_⟩
  obtain ⟨r, hr, -⟩ := h.row i hi
  have hA := h.wrA i hi
  exact ⟨r, hr, by rw [hv _ hA.1 (by omega), if_neg (by omega)]; exact hr⟩
theorem SR.step (hT : TW cy w A lo n t b d wo wr 3 G T P) {j : Nat} (hj : j < 3) (h : SR cy w v A t wr G' T' P' j) {r : Nat → Int32} (hr : w (wr j) = .inl (cy 0, 14, .inl r)) : SR cy w (va_up v (wr j) (.inl (cy 0, 14, .inl (upd r 13 0)))) A t wr G' T' P' (j + 1) := by
  have hA := hT.wrA j hj
  refine ⟨pw_ext h.1 (fun a h1 h2 => xu_ne (by omega)), fun a h1 h2 h3 => (xu_ne (h3 j hj)).trans (h.2.1 a h1 h2 h3), fun i hi => ?_⟩
  obtain ⟨r1, g1, g2⟩ := h.2.2 i hi
  by_cases e : i = j
  · subst e
    rw [g1] at hr
    cases hr
    exact ⟨r, g1, by rw [xu_same, if_pos (by omega)]⟩
  · refine ⟨r1, g1, (xu_ne (fun q => e (hT.wrI i j hi hj q))).trans (g2.trans ?_)⟩
    by_cases e1 : i < j
    · rw [if_pos e1, if_pos (by omega)]
    · rw [if_neg e1, if_neg (by omega)]
theorem SR.oth {j : Nat} (hT : TW cy w A lo n t b d wo wr 3 G T P) (h : SR cy w v A t wr G' T' P' j) (hu : ∀ a, A a → u a = v a) : SR cy w u A t wr G' T' P' j := by
  refine ⟨pw_ext h.1 (fun a h1 h2 => hu a (hT.own a (by omega) (by omega))), fun a h1 h2 h3 => (hu a h1).trans (h.2.1 a h1 h2 h3), fun i hi => ?_⟩
  obtain ⟨r1, g1, g2⟩ := h.2.2 i hi
  exact ⟨r1, g1, (hu _ (hT.wrA i hi).1).trans g2⟩
theorem SR.obj {j : Nat} (hT : TW cy w A lo n t b d wo wr 3 G T P) (h : SR cy w v A t wr G' T' P' j) : v t = .inr (7, tF t b d wo (G 0 4)) :=
  (h.2.1 t (hT.own t (by omega) (by omega)) (by omega) (fun i hi q => by have := (hT.wrA i hi).2; omega)).trans hT.obj
theorem SR.wells {j : Nat} (hT : TW cy w A lo n t b d wo wr 3 G T P) (h : SR cy w v A t wr G' T' P' j) : ∃ f : Nat → Option Nat, v wo = .inl (cy 6, 3, .inr (.inr (.inr (.inr f)))) ∧ ∀ i, i < 3 → f i = some (wr i) := by
  obtain ⟨f, hf, hi⟩ := hT.wells
  refine ⟨f, (h.2.1 wo hT.woA.1 (by have := hT.woA.2; omega) (fun i hi q => ?_)).trans hf, hi⟩
  obtain ⟨r, hr, -⟩ := hT.row i hi
  rw [q, hr] at hf
  simp at hf
theorem SR.fin (hT : TW cy w A lo n t b d wo wr 3 G T P) (h : SR cy w v A t wr G' T' P' 3) (hG4 : G' 0 4 = G 0 4) (hG : ∀ i, i < 16 → G' (5 + 2 * i) 2 = G (5 + 2 * i) 2 ∧ G' (5 + 2 * i) 3 = G (5 + 2 * i) 3) (hW : ∀ i, i < 3 → G' (37 + 2 * i) 0 = G (37 + 2 * i) 0 ∧ G' (37 + 2 * i) 2 = G (37 + 2 * i) 2 ∧ G' (37 + 2 * i) 3 = G (37 + 2 * i) 3 ∧ P' (103 + 2 * i) 0 = P (103 + 2 * i) 0 ∧ P' (103 + 2 * i) 1 = 0) (hC : ∀ j, j < 3 → G' 3 j = G 3 j) : TW cy v A lo n t b d wo wr 3 G' T' P' := by
  have hk : ∀ a, A a → (a < t + 1 ∨ t + 119 ≤ a) → (∀ c N (f : Nat → Int32), w a = .inl (c, N, .inl f) → N ≠ 14) → v a = w a := fun a h1 h2 h3 => h.2.1 a h1 h2 (fun i hi q => by
    obtain ⟨r, hr, -⟩ := hT.row i hi
    exact h3 _ _ _ (by rw [q]; exact hr) rfl)
  refine hT.of ((h.obj hT).trans (by rw [hG4])) h.1 (fun a h1 h2 h3 => hk a h1 (by omega) (fun c N f q => absurd q (h3 c N f))) (fun a c N f h1 h2 q => ?_) (fun i hi => ?_) (fun i hi => ?_) ?_
  · by_cases e : ∀ i, i < 3 → a ≠ wr i
    · exact ⟨f, (h.2.1 a h1 (by omega) e).trans q⟩
    · have : ∃ i, i < 3 ∧ a = wr i := by
        by_cases e0 : a = wr 0
        · exact ⟨0, by omega, e0⟩
        · by_cases e1 : a = wr 1
          · exact ⟨1, by omega, e1⟩
          · by_cases e2 : a = wr 2
            · exact ⟨2, by omega, e2⟩
            · refine absurd (fun i hi => ?_) e
              rcases (by omega : i = 0 ∨ i = 1 ∨ i = 2) with rfl | rfl | rfl
              · exact e0
              · exact e1
              · exact e2
      obtain ⟨i, hi, rfl⟩ := this
      obtain ⟨r, g1, g2⟩ := h.2.2 i hi
      rw [g1] at q
      cases q
      exact ⟨_, g2⟩
  · obtain ⟨r, h1, h2, h3⟩ := hT.shutR i hi
    exact ⟨r, (hk _ (hT.own _ (by omega) (by omega)) (by omega) (fun c N f q => by rw [h1] at q; cases q; decide)).trans h1, h2.trans (hG i hi).1.symm, h3.trans (hG i hi).2.symm⟩
  · obtain ⟨r, g1, g2⟩ := h.2.2 i hi
    obtain ⟨r2, h1, h2, h3, h4, h5, -⟩ := hT.row i hi
    rw [g1] at h1
    cases h1
    have hw := hW i hi
    rw [if_pos hi] at g2
    exact ⟨_, g2, h2.trans hw.1.symm, h3.trans hw.2.1.symm, h4.trans hw.2.2.1.symm, h5.trans hw.2.2.2.1.symm, hw.2.2.2.2.symm⟩
  · obtain ⟨r, h1, h2⟩ := hT.caps
    exact ⟨r, (hk _ (hT.own _ (by omega) (by omega)) (by omega) (fun c N f q => by rw [h1] at q; cases q; decide)).trans h1, fun j hj => (h2 j hj).trans (hC j hj).symm⟩
end
