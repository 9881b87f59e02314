section
-- ===== PART A: goes FIRST, ahead of the names: the tables' words, and 'selects' of the private methods out of them =====
/-- a private method of a class that the tables say can be made, by its rows of tables_1 -/
def lw_okq (q : MethodName × Nat) : Prop := (q.1.cls ≠ "java/lang/invoke/MethodHandle" ∧ q.1.cls ≠ "java/lang/invoke/VarHandle") ∧ Cond.instantiable q.1.cls q.2 ∈ tables_1 ∧ Cond.privateMethod q.1 ∈ tables_1 ∧ Cond.instanceMethod q.1 ∈ tables_1
theorem lw_p0 : lw_okq (⟨"java/lang/Throwable", "fillInStackTrace", "(I)Ljava/lang/Throwable;"⟩, 6) := ⟨⟨by decide +kernel, by decide +kernel⟩, List.mem_of_getElem? (i := 68) (by decide +kernel), List.mem_of_getElem? (i := 66) (by decide +kernel), List.mem_of_getElem? (i := 67) (by decide +kernel)⟩
theorem lw_p1 : lw_okq (⟨"PoreField", "needOpen", "(I)V"⟩, 11) := ⟨⟨by decide +kernel, by decide +kernel⟩, List.mem_of_getElem? (i := 135) (by decide +kernel), List.mem_of_getElem? (i := 133) (by decide +kernel), List.mem_of_getElem? (i := 134) (by decide +kernel)⟩
theorem lw_p2 : lw_okq (⟨"PoreField$Ground", "startMonth", "()V"⟩, 12) := ⟨⟨by decide +kernel, by decide +kernel⟩, List.mem_of_getElem? (i := 164) (by decide +kernel), List.mem_of_getElem? (i := 162) (by decide +kernel), List.mem_of_getElem? (i := 163) (by decide +kernel)⟩
theorem lw_p3 : lw_okq (⟨"PoreField$Ground", "produce", "(LPoreField$Well;)V"⟩, 12) := ⟨⟨by decide +kernel, by decide +kernel⟩, List.mem_of_getElem? (i := 164) (by decide +kernel), List.mem_of_getElem? (i := 171) (by decide +kernel), List.mem_of_getElem? (i := 172) (by decide +kernel)⟩
theorem lw_p4 : lw_okq (⟨"PoreField$Ground", "mayComeUp", "(I)I"⟩, 12) := ⟨⟨by decide +kernel, by decide +kernel⟩, List.mem_of_getElem? (i := 164) (by decide +kernel), List.mem_of_getElem? (i := 186) (by decide +kernel), List.mem_of_getElem? (i := 187) (by decide +kernel)⟩
theorem lw_p5 : lw_okq (⟨"PoreField$Cell", "flow", "(I)J"⟩, 4) := ⟨⟨by decide +kernel, by decide +kernel⟩, List.mem_of_getElem? (i := 199) (by decide +kernel), List.mem_of_getElem? (i := 197) (by decide +kernel), List.mem_of_getElem? (i := 198) (by decide +kernel)⟩
theorem lw_p6 : lw_okq (⟨"PoreField$Ground", "putGasBack", "()V"⟩, 12) := ⟨⟨by decide +kernel, by decide +kernel⟩, List.mem_of_getElem? (i := 164) (by decide +kernel), List.mem_of_getElem? (i := 211) (by decide +kernel), List.mem_of_getElem? (i := 212) (by decide +kernel)⟩
theorem lw_p7 : lw_okq (⟨"PoreField$Ground", "putIn", "(LPoreField$Well;II)V"⟩, 12) := ⟨⟨by decide +kernel, by decide +kernel⟩, List.mem_of_getElem? (i := 164) (by decide +kernel), List.mem_of_getElem? (i := 215) (by decide +kernel), List.mem_of_getElem? (i := 216) (by decide +kernel)⟩
theorem lw_p8 : lw_okq (⟨"PoreField$Ground", "putWaterIn", "()V"⟩, 12) := ⟨⟨by decide +kernel, by decide +kernel⟩, List.mem_of_getElem? (i := 164) (by decide +kernel), List.mem_of_getElem? (i := 219) (by decide +kernel), List.mem_of_getElem? (i := 220) (by decide +kernel)⟩
theorem lw_p9 : lw_okq (⟨"PoreField$Ground", "evenOut", "(IZ)V"⟩, 12) := ⟨⟨by decide +kernel, by decide +kernel⟩, List.mem_of_getElem? (i := 164) (by decide +kernel), List.mem_of_getElem? (i := 223) (by decide +kernel), List.mem_of_getElem? (i := 224) (by decide +kernel)⟩
theorem lw_p10 : lw_okq (⟨"PoreField", "countMonth", "()V"⟩, 11) := ⟨⟨by decide +kernel, by decide +kernel⟩, List.mem_of_getElem? (i := 135) (by decide +kernel), List.mem_of_getElem? (i := 229) (by decide +kernel), List.mem_of_getElem? (i := 230) (by decide +kernel)⟩
theorem lw_p11 : lw_okq (⟨"PoreField", "allocate", "(I)V"⟩, 11) := ⟨⟨by decide +kernel, by decide +kernel⟩, List.mem_of_getElem? (i := 135) (by decide +kernel), List.mem_of_getElem? (i := 233) (by decide +kernel), List.mem_of_getElem? (i := 234) (by decide +kernel)⟩
theorem lw_p12 : lw_okq (⟨"PoreField", "allocateOneByOne", "(I)V"⟩, 11) := ⟨⟨by decide +kernel, by decide +kernel⟩, List.mem_of_getElem? (i := 135) (by decide +kernel), List.mem_of_getElem? (i := 241) (by decide +kernel), List.mem_of_getElem? (i := 242) (by decide +kernel)⟩
theorem lw_p13 : lw_okq (⟨"PoreField", "keepTests", "()V"⟩, 11) := ⟨⟨by decide +kernel, by decide +kernel⟩, List.mem_of_getElem? (i := 135) (by decide +kernel), List.mem_of_getElem? (i := 245) (by decide +kernel), List.mem_of_getElem? (i := 246) (by decide +kernel)⟩
theorem lw_p14 : lw_okq (⟨"PoreField", "entitle", "(I)V"⟩, 11) := ⟨⟨by decide +kernel, by decide +kernel⟩, List.mem_of_getElem? (i := 135) (by decide +kernel), List.mem_of_getElem? (i := 252) (by decide +kernel), List.mem_of_getElem? (i := 253) (by decide +kernel)⟩
theorem lw_p15 : lw_okq (⟨"PoreField", "reservesOf", "(I)I"⟩, 11) := ⟨⟨by decide +kernel, by decide +kernel⟩, List.mem_of_getElem? (i := 135) (by decide +kernel), List.mem_of_getElem? (i := 260) (by decide +kernel), List.mem_of_getElem? (i := 261) (by decide +kernel)⟩
def lw_privs_1 : List (MethodName × Nat) := [(⟨"java/lang/Throwable", "fillInStackTrace", "(I)Ljava/lang/Throwable;"⟩, 6), (⟨"PoreField", "needOpen", "(I)V"⟩, 11), (⟨"PoreField$Ground", "startMonth", "()V"⟩, 12), (⟨"PoreField$Ground", "produce", "(LPoreField$Well;)V"⟩, 12), (⟨"PoreField$Ground", "mayComeUp", "(I)I"⟩, 12), (⟨"PoreField$Cell", "flow", "(I)J"⟩, 4), (⟨"PoreField$Ground", "putGasBack", "()V"⟩, 12), (⟨"PoreField$Ground", "putIn", "(LPoreField$Well;II)V"⟩, 12), (⟨"PoreField$Ground", "putWaterIn", "()V"⟩, 12), (⟨"PoreField$Ground", "evenOut", "(IZ)V"⟩, 12), (⟨"PoreField", "countMonth", "()V"⟩, 11), (⟨"PoreField", "allocate", "(I)V"⟩, 11), (⟨"PoreField", "allocateOneByOne", "(I)V"⟩, 11), (⟨"PoreField", "keepTests", "()V"⟩, 11), (⟨"PoreField", "entitle", "(I)V"⟩, 11), (⟨"PoreField", "reservesOf", "(I)I"⟩, 11)]
theorem lw_r1 : ∀ q ∈ lw_privs_1, lw_okq q := List.forall_mem_cons.mpr ⟨lw_p0, List.forall_mem_cons.mpr ⟨lw_p1, List.forall_mem_cons.mpr ⟨lw_p2, List.forall_mem_cons.mpr ⟨lw_p3, List.forall_mem_cons.mpr ⟨lw_p4, List.forall_mem_cons.mpr ⟨lw_p5, List.forall_mem_cons.mpr ⟨lw_p6, List.forall_mem_cons.mpr ⟨lw_p7, List.forall_mem_cons.mpr ⟨lw_p8, List.forall_mem_cons.mpr ⟨lw_p9, List.forall_mem_cons.mpr ⟨lw_p10, List.forall_mem_cons.mpr ⟨lw_p11, List.forall_mem_cons.mpr ⟨lw_p12, List.forall_mem_cons.mpr ⟨lw_p13, List.forall_mem_cons.mpr ⟨lw_p14, List.forall_mem_cons.mpr ⟨lw_p15, fun _ h => absurd h List.not_mem_nil⟩⟩⟩⟩⟩⟩⟩⟩⟩⟩⟩⟩⟩⟩⟩⟩
def lw_privs : List (MethodName × Nat) := lw_privs_1
def lw_tbl : List Cond := k2_sels lw_privs ++ tables_1
theorem lw_privs_ok : ∀ q ∈ lw_privs, lw_okq q := lw_r1
end
section
/-! ===== BEGIN words of one list among another's, by their places ===== -/
theorem goodIn_r {big : List Cond} (ws : List Cond) (ps : List Nat) (hp : ws = ps.filterMap (fun i => big[i]?)) (h : ws.all goodWord = true) : GoodIn big ws := by
  intro w hw
  have h1 := List.all_eq_true.mp h w hw
  rw [hp] at hw
  obtain ⟨i, -, hi⟩ := List.mem_filterMap.mp hw
  have hm : w ∈ big := by first | exact List.mem_of_getElem? hi | exact List.getElem?_mem hi
  exact ⟨hm, good_of_word h1⟩
theorem goodIn_app {big a b : List Cond} (ha : GoodIn big a) (hb : GoodIn big b) : GoodIn big (a ++ b) := fun w h => (List.mem_append.mp h).elim (ha w) (hb w)
theorem goodIn_ca {big a b : List Cond} {c : Cond} (ha : GoodIn big (c :: a)) (hb : GoodIn big b) : GoodIn big (c :: (a ++ b)) := fun w h => (List.mem_cons.mp h).elim (fun e => ha w (List.mem_cons.mpr (Or.inl e))) (fun h => (List.mem_append.mp h).elim (fun h => ha w (List.mem_cons.mpr (Or.inr h))) (hb w))
theorem goodIn_sub {big ws : List Cond} (hm : ∀ w ∈ ws, w ∈ big) (h : ws.all goodWord = true) : GoodIn big ws := fun w hw => ⟨hm w hw, good_of_word (List.all_eq_true.mp h w hw)⟩
/-! ===== END ===== -/


/-! ===== BEGIN exceptions that leave a method, and their catching by the caller (launches without stack traces) ===== -/
section VXA
/-! The laws vx_back, vx_callV, vx_callS, vx_callSW, vx_throw0, vx_throwS follow proofs of the library, with one case more: JvmDerived/Free/Laws.lean (Back.of_free), Shelf42/LK1.lean (callV, callS), Shelf/KitTraced.lean (throwNew0V, throwNewS). -/
/-- where a method has thrown q: the class by its name, the cell, what was written, the world -/
def vx_T (XC : String → State → State → Prop) (st : State) (q : Addr) (t : State) (mc ms : Nat) (free : Addr → Prop) : Prop :=
  ∃ (E : String) (ce : Cell) (L : List Loc), XC E st t ∧ t.heap[q]? = some ce ∧ ce.vm = .none ∧ st.vm.findClass E = some ce.cls ∧ st.WarmedH t.vm ∧ st.sameButNew ({ t with vm := st.vm } : State) L mc ms ∧ ∀ z ∈ L, free z.base
def vx_Q (Qc : Array Value → State → Outcome → State → Prop) (XC : String → State → State → Prop) (mc ms : Nat) (free : Addr → Prop) : Array Value → State → Outcome → State → Prop := fun a st o t =>
  (Qc a st o t ∧ ∃ L, FrameEnd st o t L mc ms ∧ ∀ q ∈ L, free q.base) ∨ ∃ q, o = .threw q ∧ vx_T XC st q t mc ms free
/-- a callee that returns or throws -/
def vx_Met (l : Launch) (y : MethodName) (ws : List Cond) (rm : Room) (Pc : Array Value → State → Prop) (Qc : Array Value → State → Outcome → State → Prop) (XC : String → State → State → Prop) (mc ms : Nat) (free : Addr → Prop) : Prop :=
  MetFree l y (headSpec ws rm) Pc (fun _ _ _ _ _ => True) (vx_Q Qc XC mc ms free)
def vx_Post (XC : String → State → State → Prop) (mc ms : Nat) (free : Addr → Prop) : Pt → Array Value → Addr → Pt → Prop := fun A a q B =>
  ∃ (g : JFrame) (mk : MethodId) (t : State) (L : List Loc) (E : String) (ce : Cell), B.U.heap = t.heap ∧ B.U.vm = t.vm ∧ XC E (A.U.calling g mk a) t ∧ t.heap[q]? = some ce ∧ ce.vm = .none ∧ A.U.vm.findClass E = some ce.cls ∧ B.locs = A.locs ++ L ∧ (∀ z ∈ L, free z.base) ∧ B.cells = A.cells + mc ∧ B.slots = A.slots + ms
def vx_Back (l : Launch) (R : Room) (p : Program) (e : Env) (below : List Frame) (s : State) (sargs : Array Value) (y : MethodName) (len W9 : Nat)
    (Pre : Pt → Array Value → Prop) (Post : Pt → Array Value → Option Value → Pt → Prop) (PostX : Pt → Array Value → Addr → Pt → Prop) : Prop :=
  ∀ (m : MethodId) (meth : Method) (c : Code) (A : Pt) (g : JFrame) (ig : Instr) (mk : MethodId) (a : Array Value),
    Stand p l e R s m sargs below meth c A.U A.locs A.cells A.slots → g.method = m → g.locals.size = c.maxLocals → decode c.code g.pc = .ok (ig, len) →
    2 * g.monitorRoom + (g.stack.map fun v => v.category).sum ≤ W9 → A.U.methodNamed? y = some mk → Pre A a →
    (∃ (v : Option Value) (B : Pt), Stand p l e R s m sargs below meth c B.U B.locs B.cells B.slots ∧ Post A a v B ∧
      Steps p.tables e below (doInvoke e (A.U.setTop g) [] mk a).1 (B.U.setTop { g with pc := g.pc + len, stack := v.toList ++ g.stack })) ∨
    (∃ (q : Addr) (B : Pt), Stand p l e R s m sargs below meth c B.U B.locs B.cells B.slots ∧ PostX A a q B ∧
      Steps p.tables e below (doInvoke e (A.U.setTop g) [] mk a).1 ((B.U.setTop g).pushFrame (.throwing q)))
section Payer
variable {l : Launch} {R : Room} {p : Program} {e : Env} {below : List Frame} {s : State} {sargs : Array Value} {y : MethodName} {len W9 : Nat}
theorem vx_back {ws : List Cond} {rm : Room} {Pc : Array Value → State → Prop} {Qc : Array Value → State → Outcome → State → Prop} {XC : String → State → State → Prop} {mc ms : Nat} {free : Addr → Prop} {bytes : ByteArray} {maxL : Nat} {ret : Option FieldType}
    (hM : vx_Met l y ws rm Pc Qc XC mc ms free) (hblind : FrameBlind Pc) (hrc : rm.cells = mc) (hrs : rm.slots = ms)
    (hframes : rm.frames + 1 ≤ R.frames) (hlocals : W9 + (maxL + 11) + rm.locals ≤ R.locals)
    (hws : ∀ w ∈ ws, ∀ a' U, s.WarmedH U.vm → w.before a' U = true) (hcode : Cond.code y bytes maxL ret ∈ ws) (hinit : ∀ a' U, s.WarmedH U.vm → (Cond.initialized y.cls).before a' U = true) :
    vx_Back l R p e below s sargs y len W9 (PreOf R mc ms Pc) (PostOf Qc mc ms free) (vx_Post XC mc ms free) := by
  intro m meth c A g ig mk a X hg hsize hdg hW hn hp
  have h1 : (headSpec ws rm).pre.before a A.U = true := atoms_intro fun w hw => hws w hw _ _ X.warmed
  have h2 : (Cond.code y bytes maxL ret).before a A.U = true := hws _ hcode _ _ X.warmed
  have h3 : (Cond.initialized y.cls).before a A.U = true := hinit _ _ X.warmed
  have h4 : A.cells + (headSpec ws rm).room.cells ≤ R.cells := by rw [show (headSpec ws rm).room.cells = mc from hrc]; exact hp.1
  have h5 : A.slots + (headSpec ws rm).room.slots ≤ R.slots := by rw [show (headSpec ws rm).room.slots = ms from hrs]; exact hp.2.1
  have hPc : Pc a (A.U.calling g mk a) := hblind _ _ _ _ hp.2.2
  obtain ⟨U, Ls, c0, s0⟩ := A
  dsimp only [Pt.U, Pt.locs, Pt.cells, Pt.slots] at h1 h2 h3 h4 h5 X hn hPc ⊢
  obtain ⟨methY, cY, hmY, hcY, -, hlY, -, -, -, -⟩ := Cond.code_spec hn h2
  obtain ⟨kY, hkY, -⟩ := className_of_methodNamed hn
  have hinitY : kY.init = .initialized := Cond.initialized_spec (findClass_of_methodNamed hn) hkY h3
  have h : At U g.method c below := by rw [hg]; exact X.here
  have hlocals9 : W9 + (maxL + 11) + (headSpec ws rm).room.locals ≤ R.locals := hlocals
  have happ : (headSpec ws rm).appliesLoose y e.platform (U.calling g mk a) = true :=
    Spec.appliesLoose_calling (g := g) h hdg hn hkY hinitY
      (X.room_calling (g := g) (R' := (headSpec ws rm).room) hsize hmY hcY hframes (by rw [hlY]; omega) h4 h5) h1
  obtain ⟨mid, hmid⟩ := h.above
  have hfr : (U.setTop g).frames = (.java g :: mid) ++ below := by rw [State.frames_setTop' g h.top, hmid]; rfl
  obtain ⟨o, s₂, hsteps, -, hend, hq⟩ := Steps.callFree hM p X.admits X.cas X.clock (acts := []) hfr happ hPc trivial
  have hq' : vx_Q Qc XC mc ms free a (U.calling g mk a) o s₂ := hq
  rw [State.frames_setTop' g h.top] at hend
  obtain ⟨g₀, hg0⟩ := Option.isSome_iff_exists.mp h.top
  obtain ⟨r, hr⟩ := State.topJava?_eq_some.mp hg0
  have hr' : (({ U with heap := s₂.heap, slotsUsed := s₂.slotsUsed } : State).setVm s₂.vm).frames = .java g₀ :: r := hr
  rcases hq' with ⟨hqc, L, hfe, hL⟩ | ⟨q, rfl, E, ce, L, hx, hce, hcv, hcl, hW₂, hsm, hL⟩
  · obtain ⟨⟨v, rfl⟩, hW₂, e2, q2, q3, q4, q5, q6⟩ := id hfe
    have e3 : s₂ = ({ (U.calling g mk a).setFrames s₂.frames with heap := s₂.heap, slotsUsed := s₂.slotsUsed } : State).setVm s₂.vm := by
      have : s₂ = ({ s₂ with vm := (U.calling g mk a).vm } : State).setVm s₂.vm := rfl
      rw [e2] at this
      exact this
    obtain ⟨c₂, i₂, len₂, hc₂, hd₂, hf₂⟩ := hend
    have hW' : U.WarmedH s₂.vm := hW₂
    have hcc : c₂ = c := by
      have h1 : s₂.code? g.method = U.code? g.method := by
        rw [State.code?_eq, State.code?_eq, hW'.alike.method?]
      exact Option.some.inj (hc₂.symm.trans (h1.trans h.code))
    subst hcc
    have hlen : len₂ = len := by rw [hdg] at hd₂; cases hd₂; rfl
    subst hlen
    have hs₂ : s₂ = (({ U with heap := s₂.heap, slotsUsed := s₂.slotsUsed } : State).setVm s₂.vm).setTop { g with pc := g.pc + len₂, stack := v.toList ++ g.stack } := by
      refine e3.trans ?_
      rw [hf₂, State.calling_eq h.top, State.setFrames_setFrames, State.setTop_of_frames _ hr', hr]
      rfl
    have hsame : U.sameButNew ({ U with heap := s₂.heap, slotsUsed := s₂.slotsUsed } : State) L mc ms := by
      refine ⟨?_, q2, q3, q4, q5, q6⟩
      obtain ⟨t, ht, -⟩ := State.frames_cons hr
      show ({ U with heap := s₂.heap, slotsUsed := s₂.slotsUsed } : State) = { U.setFrames U.frames with heap := s₂.heap, slotsUsed := s₂.slotsUsed }
      rw [State.setFrames_self ht]
    subst hg
    refine Or.inl ⟨v, ⟨(({ U with heap := s₂.heap, slotsUsed := s₂.slotsUsed } : State).setVm s₂.vm), Ls ++ L, c0 + mc, s0 + ms⟩,
      ⟨X.admits, X.cas, X.clock, X.frames, X.room, X.hears, X.method, X.code, (X.here.setHeapUsed s₂.heap s₂.slotsUsed).setVm hW'.alike, X.tail, State.WarmedH.trans X.warmed hW', X.limits, X.bytes, X.same.trans (hsame.setVm s.vm)⟩,
      ⟨g, mk, s₂, L, rfl, rfl, hqc, rfl, hL, rfl, rfl⟩, ?_⟩
    show Steps p.tables e below _ ((({ U with heap := s₂.heap, slotsUsed := s₂.slotsUsed } : State).setVm s₂.vm).setTop { g with pc := g.pc + len₂, stack := v.toList ++ g.stack })
    rw [← hs₂]
    exact hsteps
  · obtain ⟨e2, q2, q3, q4, q5, q6⟩ := id hsm
    have e3 : s₂ = ({ (U.calling g mk a).setFrames s₂.frames with heap := s₂.heap, slotsUsed := s₂.slotsUsed } : State).setVm s₂.vm := by
      have : s₂ = ({ s₂ with vm := (U.calling g mk a).vm } : State).setVm s₂.vm := rfl
      rw [e2] at this
      exact this
    have hf₂ : s₂.frames = .throwing q :: .java g :: U.frames.tail := hend
    have hW' : U.WarmedH s₂.vm := hW₂
    have hs₂ : s₂ = ((({ U with heap := s₂.heap, slotsUsed := s₂.slotsUsed } : State).setVm s₂.vm).setTop g).pushFrame (.throwing q) := by
      refine e3.trans ?_
      rw [hf₂, State.calling_eq h.top, State.setFrames_setFrames, State.pushFrame, State.frames_setTop _ hr', State.setTop_of_frames _ hr', State.setFrames_setFrames, hr]
      rfl
    have hsame : U.sameButNew ({ U with heap := s₂.heap, slotsUsed := s₂.slotsUsed } : State) L mc ms := by
      refine ⟨?_, q2, q3, q4, q5, q6⟩
      obtain ⟨t, ht, -⟩ := State.frames_cons hr
      show ({ U with heap := s₂.heap, slotsUsed := s₂.slotsUsed } : State) = { U.setFrames U.frames with heap := s₂.heap, slotsUsed := s₂.slotsUsed }
      rw [State.setFrames_self ht]
    subst hg
    refine Or.inr ⟨q, ⟨(({ U with heap := s₂.heap, slotsUsed := s₂.slotsUsed } : State).setVm s₂.vm), Ls ++ L, c0 + mc, s0 + ms⟩,
      ⟨X.admits, X.cas, X.clock, X.frames, X.room, X.hears, X.method, X.code, (X.here.setHeapUsed s₂.heap s₂.slotsUsed).setVm hW'.alike, X.tail, State.WarmedH.trans X.warmed hW', X.limits, X.bytes, X.same.trans (hsame.setVm s.vm)⟩,
      ⟨g, mk, s₂, L, E, ce, rfl, rfl, hx, hce, hcv, hcl, rfl, hL, rfl, rfl⟩, ?_⟩
    show Steps p.tables e below _ (((({ U with heap := s₂.heap, slotsUsed := s₂.slotsUsed } : State).setVm s₂.vm).setTop g).pushFrame (.throwing q))
    rw [← hs₂]
    exact hsteps
end Payer
section Calls
variable {p : Program} {l : Launch} {e : Env} {R : Room} {s : State} {m : MethodId} {args : Array Value} {below : List Frame} {meth : Method} {c : Code} {T : State} {locs : List Loc} {cells slots : Nat}
theorem vx_callV (X : Stand p l e R s m args below meth c T locs cells slots) (hexec : p.tables.exec = Jvm.exec) {own C : String} {index : Nat} {y : MethodName} {bytes : ByteArray} {maxL : Nat} {ret : Option FieldType}
    (hown : s.vm.findClass own = some m.cls) (hlink : (Cond.methodLink own index y).before args s = true) (hinst : (Cond.instanceMethod y).before args s = true) (hsel : (Cond.selects C y y).before args s = true)
    (hcode : (Cond.code y bytes maxL ret).before args s = true) (hy : y.cls ≠ "java/lang/invoke/MethodHandle" ∧ y.cls ≠ "java/lang/invoke/VarHandle")
    {W9 : Nat} {Pre : Pt → Array Value → Prop} {Post : Pt → Array Value → Option Value → Pt → Prop} {PostX : Pt → Array Value → Addr → Pt → Prop} (hK : vx_Back l R p e below s args y 3 W9 Pre Post PostX)
    {b : Addr} {cellB : Cell} (hcell : T.heap[b]? = some cellB) (hobj : cellB.vm.isStatics = false) (hcls : s.vm.findClass C = some cellB.cls)
    {g : JFrame} (hg : g.method = m) (hsize : g.locals.size = c.maxLocals) {argsL rest : List Value} (hlen : ∀ sig, parseMethodDescriptor y.desc = some sig → argsL.length = sig.parameters.length)
    (hstack : g.stack = argsL.reverse ++ .ref b :: rest) (hW : 2 * g.monitorRoom + (rest.map fun v => v.category).sum ≤ W9) (hdg : decode c.code g.pc = .ok (.invokevirtual index, 3))
    (hpre : ∀ vm₁, s.WarmedH vm₁ → Pre ⟨T.setVm vm₁, locs, cells, slots⟩ (Value.ref b :: argsL).toArray) :
    (∃ (v : Option Value) (vm₁ : Vm) (B : Pt), s.WarmedH vm₁ ∧ Stand p l e R s m args below meth c B.U B.locs B.cells B.slots ∧ Post ⟨T.setVm vm₁, locs, cells, slots⟩ (Value.ref b :: argsL).toArray v B ∧
      ∀ target, Steps p.tables e below (B.U.setTop { g with pc := g.pc + 3, stack := v.toList ++ rest }) target → Steps p.tables e below (T.setTop g) target) ∨
    (∃ (q : Addr) (vm₁ : Vm) (B : Pt), s.WarmedH vm₁ ∧ Stand p l e R s m args below meth c B.U B.locs B.cells B.slots ∧ PostX ⟨T.setVm vm₁, locs, cells, slots⟩ (Value.ref b :: argsL).toArray q B ∧
      Steps p.tables e below (T.setTop g) ((B.U.setTop { g with stack := rest }).pushFrame (.throwing q))) := by
  obtain ⟨mk, methM, hnamed, hmethM, hstM, habM⟩ := Cond.instanceMethod_spec hinst
  obtain ⟨methM', cM, hmethM', -, -, -, -, -, -, hsigM⟩ := Cond.code_spec hnamed hcode
  cases hmethM.symm.trans hmethM'
  obtain ⟨c2, r2, m2, q1, q2, q3, q4, kP, hkP, hkPi⟩ := Cond.selects_spec hsel
  cases hcls.symm.trans q1
  cases (State.methodFound?_of_named hnamed hy).symm.trans q2
  cases hnamed.symm.trans q3
  have hselP : selectMethod e.platform s.vm cellB.cls mk = .method mk := by rw [Launch.admits_selectMethod X.admits]; exact q4
  obtain ⟨vm₁, X₁, hstep₁⟩ := X.invokevirtual hexec hown hlink hnamed hmethM hstM hkP hkPi hy (a := b) (cell := cellB) hcell
    (fun z h => by rw [h] at hobj; cases hobj) hselP hmethM habM hkP hkPi (g := g) hg (argsL := argsL) (rest := rest) (hlen _ hsigM) hstack hdg
  rcases hK m meth c ⟨T.setVm vm₁, locs, cells, slots⟩ { g with stack := rest } (.invokevirtual index) mk (Value.ref b :: argsL).toArray X₁ hg hsize hdg hW (X₁.named hnamed) (hpre vm₁ X₁.warmed) with ⟨v, B, X', hpost, hsteps⟩ | ⟨q, B, X', hpost, hsteps⟩
  · exact Or.inl ⟨v, vm₁, B, X₁.warmed, X', hpost, fun target h => hstep₁ _ fun acts => by rw [doInvoke_state]; exact hsteps.trans h⟩
  · exact Or.inr ⟨q, vm₁, B, X₁.warmed, X', hpost, hstep₁ _ fun acts => by rw [doInvoke_state]; exact hsteps⟩
theorem vx_callS (X : Stand p l e R s m args below meth c T locs cells slots) (hexec : p.tables.exec = Jvm.exec) {own : String} {index : Nat} {y : MethodName} {bytes : ByteArray} {maxL : Nat} {ret : Option FieldType}
    (hown : s.vm.findClass own = some m.cls) (hlink : (Cond.methodLink own index y).before args s = true) (hstat : (Cond.static y).before args s = true) (hinit : (Cond.initialized y.cls).before args s = true)
    (hcode : (Cond.code y bytes maxL ret).before args s = true) (hy : y.cls ≠ "java/lang/invoke/MethodHandle" ∧ y.cls ≠ "java/lang/invoke/VarHandle")
    {W9 : Nat} {Pre : Pt → Array Value → Prop} {Post : Pt → Array Value → Option Value → Pt → Prop} {PostX : Pt → Array Value → Addr → Pt → Prop} (hK : vx_Back l R p e below s args y 3 W9 Pre Post PostX)
    {g : JFrame} (hg : g.method = m) (hsize : g.locals.size = c.maxLocals) {argsL rest : List Value} (hlen : ∀ sig, parseMethodDescriptor y.desc = some sig → argsL.length = sig.parameters.length)
    (hstack : g.stack = argsL.reverse ++ rest) (hW : 2 * g.monitorRoom + (rest.map fun v => v.category).sum ≤ W9) (hdg : decode c.code g.pc = .ok (.invokestatic index, 3))
    (hpre : ∀ vm₁, s.WarmedH vm₁ → Pre ⟨T.setVm vm₁, locs, cells, slots⟩ argsL.toArray) :
    (∃ (v : Option Value) (vm₁ : Vm) (B : Pt), s.WarmedH vm₁ ∧ Stand p l e R s m args below meth c B.U B.locs B.cells B.slots ∧ Post ⟨T.setVm vm₁, locs, cells, slots⟩ argsL.toArray v B ∧
      ∀ target, Steps p.tables e below (B.U.setTop { g with pc := g.pc + 3, stack := v.toList ++ rest }) target → Steps p.tables e below (T.setTop g) target) ∨
    (∃ (q : Addr) (vm₁ : Vm) (B : Pt), s.WarmedH vm₁ ∧ Stand p l e R s m args below meth c B.U B.locs B.cells B.slots ∧ PostX ⟨T.setVm vm₁, locs, cells, slots⟩ argsL.toArray q B ∧
      Steps p.tables e below (T.setTop g) ((B.U.setTop { g with stack := rest }).pushFrame (.throwing q))) := by
  obtain ⟨mk, hnamed⟩ := Cond.code_named hcode
  obtain ⟨methM, cM, hmethM, -, -, -, -, -, -, hsigM⟩ := Cond.code_spec hnamed hcode
  have hstatic : methM.isStatic = true := Cond.static_spec hnamed hmethM hstat
  obtain ⟨kP, hkP, -⟩ := className_of_methodNamed hnamed
  have hinitP : kP.init = .initialized := Cond.initialized_spec (findClass_of_methodNamed hnamed) hkP hinit
  obtain ⟨vm₁, X₁, hstep₁⟩ := X.invokestatic hexec hown hlink hnamed hmethM hstatic hkP hinitP hy (g := g) hg (argsL := argsL) (rest := rest) (hlen _ hsigM) hstack hdg
  rcases hK m meth c ⟨T.setVm vm₁, locs, cells, slots⟩ { g with stack := rest } (.invokestatic index) mk argsL.toArray X₁ hg hsize hdg hW (X₁.named hnamed) (hpre vm₁ X₁.warmed) with ⟨v, B, X', hpost, hsteps⟩ | ⟨q, B, X', hpost, hsteps⟩
  · exact Or.inl ⟨v, vm₁, B, X₁.warmed, X', hpost, fun target h => hstep₁ _ fun acts => by rw [doInvoke_state]; exact hsteps.trans h⟩
  · exact Or.inr ⟨q, vm₁, B, X₁.warmed, X', hpost, hstep₁ _ fun acts => by rw [doInvoke_state]; exact hsteps⟩
end Calls
theorem vx_cls {s : State} {T : State} {vm₁ : Vm} {E : String} {k : ClassId} (hW : s.WarmedH vm₁) (h : (T.setVm vm₁).vm.findClass E = some k) : s.vm.findClass E = some k := by
  have h1 : vm₁.findClass E = some k := h
  rw [hW.alike.findClass] at h1
  exact h1
/-- the method's frame g, with q thrown over it -/
def vx_W (p : Program) (l : Launch) (e : Env) (R : Room) (s : State) (m : MethodId) (args : Array Value) (below : List Frame) (meth : Method) (c : Code) (H : Heap) (locs : List Loc) (cells slots : Nat) (Q : State → Prop) (g : JFrame) (q : Addr) : Prop :=
  ∀ T : State, T.heap = H → Stand p l e R s m args below meth c T locs cells slots → ∃ t, Steps p.tables e below ((T.setTop g).pushFrame (.throwing q)) t ∧ Q t
def vx_Run (p : Program) (l : Launch) (e : Env) (R : Room) (s : State) (m : MethodId) (args : Array Value) (below : List Frame) (meth : Method) (c : Code) (H : Heap) (locs : List Loc) (cells slots mc ms : Nat) (g : JFrame) (rest : List Value) (Qa : State → Outcome → State → Prop) (XC : String → State → State → Prop) (free : Addr → Prop) : Prop :=
  ∀ T : State, T.heap = H → Stand p l e R s m args below meth c T locs cells slots →
    (∃ (v : Option Value) (st₀ t T' : State) (L : List Loc), st₀.heap = H ∧ Stand p l e R s m args below meth c T' (locs ++ L) (cells + mc) (slots + ms) ∧ (∀ q ∈ L, free q.base) ∧ T'.heap = t.heap ∧ T'.vm = t.vm ∧ Qa st₀ (.returned v) t ∧
      Goes p e below T g T' { g with pc := g.pc + 3, stack := v.toList ++ rest }) ∨
    (∃ (q : Addr) (st₀ t T' : State) (L : List Loc) (E : String) (ce : Cell), st₀.heap = H ∧ Stand p l e R s m args below meth c T' (locs ++ L) (cells + mc) (slots + ms) ∧ (∀ z ∈ L, free z.base) ∧ T'.heap = t.heap ∧ T'.vm = t.vm ∧ XC E st₀ t ∧ t.heap[q]? = some ce ∧ ce.vm = .none ∧ s.vm.findClass E = some ce.cls ∧
      Steps p.tables e below (T.setTop g) ((T'.setTop { g with stack := rest }).pushFrame (.throwing q)))
def vx_X {S : Type} (px : S → Prop) (B : String → S → State → Prop) (A : Nat → Prop) : String → State → State → Prop := fun E st t => ∃ u : S, px u ∧ B E u t ∧ va_F A st t
section Runs
variable {p : Program} {l : Launch} {e : Env} {R : Room} {s : State} {m : MethodId} {args : Array Value} {below : List Frame} {meth : Method} {c : Code} {H : Heap} {locs : List Loc} {cells slots : Nat}
variable {y : MethodName} {bytes cc : ByteArray} {maxL nL mc ms n index : Nat} {ret : Option FieldType} {ws : List Cond} {rm : Room} {Pc : Array Value → State → Prop} {Qc : Array Value → State → Outcome → State → Prop} {XC : String → State → State → Prop} {free : Addr → Prop} {Ts : List Cond} {own C : String} {b : Addr} {As rest : List Value} {g : JFrame}
theorem vx_callBack (cb : CallB R s args own index y bytes maxL ret ws rm mc ms n) (hM : vx_Met l y ws rm Pc Qc XC mc ms free) (hbl : FrameBlind Pc) : vx_Back l R p e below s args y 3 8 (PreOf R mc ms Pc) (PostOf Qc mc ms free) (vx_Post XC mc ms free) := by
  obtain ⟨hrc, hrs, hfr, hlo, hws, hcw, -, hini, -⟩ := cb
  exact vx_back (bytes := bytes) (maxL := maxL) (ret := ret) hM hbl hrc hrs hfr hlo hws hcw (fun a' U hW => word_at hW (Or.inl (by first | rfl | simp [Cond.onTables, Cond.keeps, Cond.steady])) hini)
theorem vx_runV (S : CallFix p m c cc nL s args Ts own) (hM : vx_Met l y ws rm Pc Qc XC mc ms free) (cw : CallW R s args own C index y bytes maxL ret ws rm mc ms n) (hp : PreV s H C b Pc As)
    (hg : g.method = m) (hn : As.length = n) (hsize : g.locals.size = nL) (hstack : g.stack = As.reverse ++ .ref b :: rest) (hW : 2 * g.monitorRoom + (rest.map fun v => v.category).sum ≤ 8) (hdg : decode cc g.pc = .ok (.invokevirtual index, 3)) (hf : cells + mc ≤ R.cells ∧ slots + ms ≤ R.slots) :
    vx_Run p l e R s m args below meth c H locs cells slots mc ms g rest (Qc (Value.ref b :: As).toArray) XC free := by
  have hK : vx_Back l R p e below s args y 3 8 (PreOf R mc ms Pc) (PostOf Qc mc ms free) (vx_Post XC mc ms free) := vx_callBack cw.1 hM hp.1
  obtain ⟨⟨-, -, -, -, -, -, hcode, -, hy, hlen, hl⟩, hin, hse⟩ := cw
  obtain ⟨hx, hb, hml, ho, -⟩ := S
  obtain ⟨-, ⟨cellB, hcB, hoB, hclB⟩, hPc⟩ := hp
  intro T hT X
  rcases vx_callV X hx (C := C) (bytes := bytes) (maxL := maxL) (ret := ret) ho hl hin hse hcode hy hK (by rw [hT]; exact hcB) hoB hclB hg (hsize.trans hml.symm) (argsL := As) (rest := rest) (fun sig h => hn.trans (hlen sig h)) hstack hW (by rw [hb]; exact hdg)
    (fun vm₁ hW₁ => ⟨hf.1, hf.2, hPc (T.setVm vm₁) hT hW₁⟩) with ⟨v, vm₁, ⟨U', l2, c2, s2⟩, hW₁, X', ⟨g', mk, t, L, e1, e2, hq, h1, hL, h2, h3⟩, st⟩ | ⟨q, vm₁, ⟨U', l2, c2, s2⟩, hW₁, X', ⟨g', mk, t, L, E, ce, e1, e2, hq, hce, hcv, hcl, h1, hL, h2, h3⟩, st⟩
  · dsimp only [Pt.U, Pt.locs, Pt.cells, Pt.slots] at X' e1 e2 h1 h2 h3 st
    subst h1; subst h2; subst h3
    exact Or.inl ⟨v, (T.setVm vm₁).calling g' mk (Value.ref b :: As).toArray, t, U', L, hT, X', hL, e1, e2, hq, st⟩
  · dsimp only [Pt.U, Pt.locs, Pt.cells, Pt.slots] at X' e1 e2 h1 h2 h3 st hcl
    subst h1; subst h2; subst h3
    exact Or.inr ⟨q, (T.setVm vm₁).calling g' mk (Value.ref b :: As).toArray, t, U', L, E, ce, hT, X', hL, e1, e2, hq, hce, hcv, vx_cls hW₁ hcl, st⟩
theorem vx_runS (S : CallFix p m c cc nL s args Ts own) (hM : vx_Met l y ws rm Pc Qc XC mc ms free) (cw : CallB R s args own index y bytes maxL ret ws rm mc ms n ∧ (Cond.static y).before args s = true) (hp : PreS s H Pc As)
    (hg : g.method = m) (hn : As.length = n) (hsize : g.locals.size = nL) (hstack : g.stack = As.reverse ++ rest) (hW : 2 * g.monitorRoom + (rest.map fun v => v.category).sum ≤ 8) (hdg : decode cc g.pc = .ok (.invokestatic index, 3)) (hf : cells + mc ≤ R.cells ∧ slots + ms ≤ R.slots) :
    vx_Run p l e R s m args below meth c H locs cells slots mc ms g rest (Qc As.toArray) XC free := by
  have hK : vx_Back l R p e below s args y 3 8 (PreOf R mc ms Pc) (PostOf Qc mc ms free) (vx_Post XC mc ms free) := vx_callBack cw.1 hM hp.1
  obtain ⟨⟨-, -, -, -, -, -, hcode, hini, hy, hlen, hl⟩, hstt⟩ := cw
  obtain ⟨hx, hb, hml, ho, -⟩ := S
  intro T hT X
  rcases vx_callS X hx (bytes := bytes) (maxL := maxL) (ret := ret) ho hl hstt hini hcode hy hK hg (hsize.trans hml.symm) (argsL := As) (rest := rest) (fun sig h => hn.trans (hlen sig h)) hstack hW (by rw [hb]; exact hdg)
    (fun vm₁ hW₁ => ⟨hf.1, hf.2, hp.2 (T.setVm vm₁) hT hW₁⟩) with ⟨v, vm₁, ⟨U', l2, c2, s2⟩, hW₁, X', ⟨g', mk, t, L, e1, e2, hq, h1, hL, h2, h3⟩, st⟩ | ⟨q, vm₁, ⟨U', l2, c2, s2⟩, hW₁, X', ⟨g', mk, t, L, E, ce, e1, e2, hq, hce, hcv, hcl, h1, hL, h2, h3⟩, st⟩
  · dsimp only [Pt.U, Pt.locs, Pt.cells, Pt.slots] at X' e1 e2 h1 h2 h3 st
    subst h1; subst h2; subst h3
    exact Or.inl ⟨v, (T.setVm vm₁).calling g' mk As.toArray, t, U', L, hT, X', hL, e1, e2, hq, st⟩
  · dsimp only [Pt.U, Pt.locs, Pt.cells, Pt.slots] at X' e1 e2 h1 h2 h3 st hcl
    subst h1; subst h2; subst h3
    exact Or.inr ⟨q, (T.setVm vm₁).calling g' mk As.toArray, t, U', L, E, ce, hT, X', hL, e1, e2, hq, hce, hcv, vx_cls hW₁ hcl, st⟩
end Runs
section Rows
variable {p : Program} {l : Launch} {e : Env} {R : Room} {s : State} {m : MethodId} {args : Array Value} {below : List Frame} {meth : Method} {c : Code} {H : Heap} {locs : List Loc} {cells slots : Nat} {Q : State → Prop}
variable {mc ms : Nat} {free : Addr → Prop} {A0 A1 : Nat → Prop} {H0 : Heap} {a : Array Value} {pc : Nat} {ls : Array Slot} {st0 rest : List Value}
theorem vx_keep {st₀ t T' : State} {L : List Loc} (h0 : st₀.heap = H) (e1 : T'.heap = t.heap) (hS : va_S A0 H0 H locs) (hA : ∀ q, q < H.size → A1 q → A0 q) (hf : ∀ q, free q → A0 q) (hL : ∀ q ∈ L, free q.base) (hF : va_F A1 st₀ t) :
    H.size ≤ T'.heap.size ∧ (∀ q : Nat, q < H.size → ¬ A1 q → T'.heap[q]? = H[q]?) ∧ va_S A0 H0 T'.heap (locs ++ L) := by
  obtain ⟨hz, hk⟩ := hF
  rw [h0] at hz hk
  exact ⟨by rw [e1]; exact hz, fun q h1 h2 => by rw [e1]; exact hk q h1 h2,
    ⟨Nat.le_trans hS.1 (by rw [e1]; exact hz), fun q h1 h2 => by rw [e1, hk q (Nat.lt_of_lt_of_le h1 hS.1) (fun z => h2 (hA q (Nat.lt_of_lt_of_le h1 hS.1) z))]; exact hS.2.1 q h1 h2, fun q hq => by
      rcases List.mem_append.mp hq with h | h
      · exact hS.2.2 q h
      · exact hf _ (hL q h)⟩⟩
theorem vx_calli {S SX : Type} {post : Int32 → S → Prop} {px : SX → Prop} {B : S → State → Prop} {BX : String → SX → State → Prop} {AX : Nat → Prop} (hr : vx_Run p l e R s m args below meth c H locs cells slots mc ms (F0 m pc ls st0) rest (va_Qi post B A1 a) (vx_X px BX AX) free) (hS : va_S A0 H0 H locs) (hA : ∀ q, q < H.size → A1 q → A0 q) (hf : ∀ q, free q → A0 q) (hAX : ∀ q, q < H.size → AX q → A0 q)
    (kx : ∀ (E : String) (ce : Cell) (q9 : Addr) (u : SX) (t : State) (H1 : Heap) (locs1 : List Loc), t.heap = H1 → s.vm.Alike t.vm → px u → BX E u t → H.size ≤ H1.size → (∀ q : Nat, q < H.size → ¬ AX q → H1[q]? = H[q]?) → va_S A0 H0 H1 locs1 → H1[q9]? = some ce → ce.vm = .none → s.vm.findClass E = some ce.cls → vx_W p l e R s m args below meth c H1 locs1 (cells + mc) (slots + ms) Q (F0 m pc ls rest) q9)
    (kk : ∀ (r : Int32) (u : S) (t : State) (H1 : Heap) (locs1 : List Loc), t.heap = H1 → s.vm.Alike t.vm → post r u → B u t → H.size ≤ H1.size → (∀ q : Nat, q < H.size → ¬ A1 q → H1[q]? = H[q]?) → va_S A0 H0 H1 locs1 → W p l e R s m args below meth c H1 locs1 (cells + mc) (slots + ms) Q (F0 m (pc + 3) ls (.int r :: rest))) : W p l e R s m args below meth c H locs cells slots Q (F0 m pc ls st0) := by
  intro T hT X
  rcases hr T hT X with ⟨v, st₀, t, T', L, h0, X', hL, e1, e2, ⟨⟨r, u, hv, hp, hb⟩, hF⟩, st⟩ | ⟨q, st₀, t, T', L, E, ce, h0, X', hL, e1, e2, ⟨u, hp, hb, hF⟩, hce, hcv, hcl, st⟩
  · cases hv
    obtain ⟨k1, k2, k3⟩ := vx_keep h0 e1 hS hA hf hL hF
    obtain ⟨t2, a1, b1⟩ := kk r u t T'.heap (locs ++ L) e1.symm (by rw [← e2]; exact X'.warmed.alike) hp hb k1 k2 k3 T' rfl X'
    exact ⟨t2, st t2 a1, b1⟩
  · obtain ⟨k1, k2, k3⟩ := vx_keep h0 e1 hS hAX hf hL hF
    obtain ⟨t2, a1, b1⟩ := kx E ce q u t T'.heap (locs ++ L) e1.symm (by rw [← e2]; exact X'.warmed.alike) hp hb k1 k2 k3 (by rw [e1]; exact hce) hcv hcl T' rfl X'
    exact ⟨t2, st.trans a1, b1⟩
theorem vx_calll {S SX : Type} {post : Int64 → S → Prop} {px : SX → Prop} {B : S → State → Prop} {BX : String → SX → State → Prop} {AX : Nat → Prop} (hr : vx_Run p l e R s m args below meth c H locs cells slots mc ms (F0 m pc ls st0) rest (va_Ql post B A1 a) (vx_X px BX AX) free) (hS : va_S A0 H0 H locs) (hA : ∀ q, q < H.size → A1 q → A0 q) (hf : ∀ q, free q → A0 q) (hAX : ∀ q, q < H.size → AX q → A0 q)
    (kx : ∀ (E : String) (ce : Cell) (q9 : Addr) (u : SX) (t : State) (H1 : Heap) (locs1 : List Loc), t.heap = H1 → s.vm.Alike t.vm → px u → BX E u t → H.size ≤ H1.size → (∀ q : Nat, q < H.size → ¬ AX q → H1[q]? = H[q]?) → va_S A0 H0 H1 locs1 → H1[q9]? = some ce → ce.vm = .none → s.vm.findClass E = some ce.cls → vx_W p l e R s m args below meth c H1 locs1 (cells + mc) (slots + ms) Q (F0 m pc ls rest) q9)
    (kk : ∀ (r : Int64) (u : S) (t : State) (H1 : Heap) (locs1 : List Loc), t.heap = H1 → s.vm.Alike t.vm → post r u → B u t → H.size ≤ H1.size → (∀ q : Nat, q < H.size → ¬ A1 q → H1[q]? = H[q]?) → va_S A0 H0 H1 locs1 → W p l e R s m args below meth c H1 locs1 (cells + mc) (slots + ms) Q (F0 m (pc + 3) ls (.long r :: rest))) : W p l e R s m args below meth c H locs cells slots Q (F0 m pc ls st0) := by
  intro T hT X
  rcases hr T hT X with ⟨v, st₀, t, T', L, h0, X', hL, e1, e2, ⟨⟨r, u, hv, hp, hb⟩, hF⟩, st⟩ | ⟨q, st₀, t, T', L, E, ce, h0, X', hL, e1, e2, ⟨u, hp, hb, hF⟩, hce, hcv, hcl, st⟩
  · cases hv
    obtain ⟨k1, k2, k3⟩ := vx_keep h0 e1 hS hA hf hL hF
    obtain ⟨t2, a1, b1⟩ := kk r u t T'.heap (locs ++ L) e1.symm (by rw [← e2]; exact X'.warmed.alike) hp hb k1 k2 k3 T' rfl X'
    exact ⟨t2, st t2 a1, b1⟩
  · obtain ⟨k1, k2, k3⟩ := vx_keep h0 e1 hS hAX hf hL hF
    obtain ⟨t2, a1, b1⟩ := kx E ce q u t T'.heap (locs ++ L) e1.symm (by rw [← e2]; exact X'.warmed.alike) hp hb k1 k2 k3 (by rw [e1]; exact hce) hcv hcl T' rfl X'
    exact ⟨t2, st.trans a1, b1⟩
theorem vx_callf {S SX : Type} {post : UInt32 → S → Prop} {px : SX → Prop} {B : S → State → Prop} {BX : String → SX → State → Prop} {AX : Nat → Prop} (hr : vx_Run p l e R s m args below meth c H locs cells slots mc ms (F0 m pc ls st0) rest (va_Qf post B A1 a) (vx_X px BX AX) free) (hS : va_S A0 H0 H locs) (hA : ∀ q, q < H.size → A1 q → A0 q) (hf : ∀ q, free q → A0 q) (hAX : ∀ q, q < H.size → AX q → A0 q)
    (kx : ∀ (E : String) (ce : Cell) (q9 : Addr) (u : SX) (t : State) (H1 : Heap) (locs1 : List Loc), t.heap = H1 → s.vm.Alike t.vm → px u → BX E u t → H.size ≤ H1.size → (∀ q : Nat, q < H.size → ¬ AX q → H1[q]? = H[q]?) → va_S A0 H0 H1 locs1 → H1[q9]? = some ce → ce.vm = .none → s.vm.findClass E = some ce.cls → vx_W p l e R s m args below meth c H1 locs1 (cells + mc) (slots + ms) Q (F0 m pc ls rest) q9)
    (kk : ∀ (r : UInt32) (u : S) (t : State) (H1 : Heap) (locs1 : List Loc), t.heap = H1 → s.vm.Alike t.vm → post r u → B u t → H.size ≤ H1.size → (∀ q : Nat, q < H.size → ¬ A1 q → H1[q]? = H[q]?) → va_S A0 H0 H1 locs1 → W p l e R s m args below meth c H1 locs1 (cells + mc) (slots + ms) Q (F0 m (pc + 3) ls (.float r :: rest))) : W p l e R s m args below meth c H locs cells slots Q (F0 m pc ls st0) := by
  intro T hT X
  rcases hr T hT X with ⟨v, st₀, t, T', L, h0, X', hL, e1, e2, ⟨⟨r, u, hv, hp, hb⟩, hF⟩, st⟩ | ⟨q, st₀, t, T', L, E, ce, h0, X', hL, e1, e2, ⟨u, hp, hb, hF⟩, hce, hcv, hcl, st⟩
  · cases hv
    obtain ⟨k1, k2, k3⟩ := vx_keep h0 e1 hS hA hf hL hF
    obtain ⟨t2, a1, b1⟩ := kk r u t T'.heap (locs ++ L) e1.symm (by rw [← e2]; exact X'.warmed.alike) hp hb k1 k2 k3 T' rfl X'
    exact ⟨t2, st t2 a1, b1⟩
  · obtain ⟨k1, k2, k3⟩ := vx_keep h0 e1 hS hAX hf hL hF
    obtain ⟨t2, a1, b1⟩ := kx E ce q u t T'.heap (locs ++ L) e1.symm (by rw [← e2]; exact X'.warmed.alike) hp hb k1 k2 k3 (by rw [e1]; exact hce) hcv hcl T' rfl X'
    exact ⟨t2, st.trans a1, b1⟩
theorem vx_calld {S SX : Type} {post : UInt64 → S → Prop} {px : SX → Prop} {B : S → State → Prop} {BX : String → SX → State → Prop} {AX : Nat → Prop} (hr : vx_Run p l e R s m args below meth c H locs cells slots mc ms (F0 m pc ls st0) rest (va_Qd post B A1 a) (vx_X px BX AX) free) (hS : va_S A0 H0 H locs) (hA : ∀ q, q < H.size → A1 q → A0 q) (hf : ∀ q, free q → A0 q) (hAX : ∀ q, q < H.size → AX q → A0 q)
    (kx : ∀ (E : String) (ce : Cell) (q9 : Addr) (u : SX) (t : State) (H1 : Heap) (locs1 : List Loc), t.heap = H1 → s.vm.Alike t.vm → px u → BX E u t → H.size ≤ H1.size → (∀ q : Nat, q < H.size → ¬ AX q → H1[q]? = H[q]?) → va_S A0 H0 H1 locs1 → H1[q9]? = some ce → ce.vm = .none → s.vm.findClass E = some ce.cls → vx_W p l e R s m args below meth c H1 locs1 (cells + mc) (slots + ms) Q (F0 m pc ls rest) q9)
    (kk : ∀ (r : UInt64) (u : S) (t : State) (H1 : Heap) (locs1 : List Loc), t.heap = H1 → s.vm.Alike t.vm → post r u → B u t → H.size ≤ H1.size → (∀ q : Nat, q < H.size → ¬ A1 q → H1[q]? = H[q]?) → va_S A0 H0 H1 locs1 → W p l e R s m args below meth c H1 locs1 (cells + mc) (slots + ms) Q (F0 m (pc + 3) ls (.double r :: rest))) : W p l e R s m args below meth c H locs cells slots Q (F0 m pc ls st0) := by
  intro T hT X
  rcases hr T hT X with ⟨v, st₀, t, T', L, h0, X', hL, e1, e2, ⟨⟨r, u, hv, hp, hb⟩, hF⟩, st⟩ | ⟨q, st₀, t, T', L, E, ce, h0, X', hL, e1, e2, ⟨u, hp, hb, hF⟩, hce, hcv, hcl, st⟩
  · cases hv
    obtain ⟨k1, k2, k3⟩ := vx_keep h0 e1 hS hA hf hL hF
    obtain ⟨t2, a1, b1⟩ := kk r u t T'.heap (locs ++ L) e1.symm (by rw [← e2]; exact X'.warmed.alike) hp hb k1 k2 k3 T' rfl X'
    exact ⟨t2, st t2 a1, b1⟩
  · obtain ⟨k1, k2, k3⟩ := vx_keep h0 e1 hS hAX hf hL hF
    obtain ⟨t2, a1, b1⟩ := kx E ce q u t T'.heap (locs ++ L) e1.symm (by rw [← e2]; exact X'.warmed.alike) hp hb k1 k2 k3 (by rw [e1]; exact hce) hcv hcl T' rfl X'
    exact ⟨t2, st.trans a1, b1⟩
theorem vx_callv {S SX : Type} {post : S → Prop} {px : SX → Prop} {B : S → State → Prop} {BX : String → SX → State → Prop} {AX : Nat → Prop} (hr : vx_Run p l e R s m args below meth c H locs cells slots mc ms (F0 m pc ls st0) rest (va_Qv post B A1 a) (vx_X px BX AX) free) (hS : va_S A0 H0 H locs) (hA : ∀ q, q < H.size → A1 q → A0 q) (hf : ∀ q, free q → A0 q) (hAX : ∀ q, q < H.size → AX q → A0 q)
    (kx : ∀ (E : String) (ce : Cell) (q9 : Addr) (u : SX) (t : State) (H1 : Heap) (locs1 : List Loc), t.heap = H1 → s.vm.Alike t.vm → px u → BX E u t → H.size ≤ H1.size → (∀ q : Nat, q < H.size → ¬ AX q → H1[q]? = H[q]?) → va_S A0 H0 H1 locs1 → H1[q9]? = some ce → ce.vm = .none → s.vm.findClass E = some ce.cls → vx_W p l e R s m args below meth c H1 locs1 (cells + mc) (slots + ms) Q (F0 m pc ls rest) q9)
    (kk : ∀ (u : S) (t : State) (H1 : Heap) (locs1 : List Loc), t.heap = H1 → s.vm.Alike t.vm → post u → B u t → H.size ≤ H1.size → (∀ q : Nat, q < H.size → ¬ A1 q → H1[q]? = H[q]?) → va_S A0 H0 H1 locs1 → W p l e R s m args below meth c H1 locs1 (cells + mc) (slots + ms) Q (F0 m (pc + 3) ls (rest))) : W p l e R s m args below meth c H locs cells slots Q (F0 m pc ls st0) := by
  intro T hT X
  rcases hr T hT X with ⟨v, st₀, t, T', L, h0, X', hL, e1, e2, ⟨⟨u, hv, hp, hb⟩, hF⟩, st⟩ | ⟨q, st₀, t, T', L, E, ce, h0, X', hL, e1, e2, ⟨u, hp, hb, hF⟩, hce, hcv, hcl, st⟩
  · cases hv
    obtain ⟨k1, k2, k3⟩ := vx_keep h0 e1 hS hA hf hL hF
    obtain ⟨t2, a1, b1⟩ := kk u t T'.heap (locs ++ L) e1.symm (by rw [← e2]; exact X'.warmed.alike) hp hb k1 k2 k3 T' rfl X'
    exact ⟨t2, st t2 a1, b1⟩
  · obtain ⟨k1, k2, k3⟩ := vx_keep h0 e1 hS hAX hf hL hF
    obtain ⟨t2, a1, b1⟩ := kx E ce q u t T'.heap (locs ++ L) e1.symm (by rw [← e2]; exact X'.warmed.alike) hp hb k1 k2 k3 (by rw [e1]; exact hce) hcv hcl T' rfl X'
    exact ⟨t2, st.trans a1, b1⟩
/-- caught by the row x of this method's table; the rows ahead don't take it -/
theorem vx_catch {own name : String} {E : String} {ce : Cell} {q : Addr} (hown : s.vm.findClass own = some m.cls) (pre : List ExceptionTableEntry) (x : ExceptionTableEntry) (suf : List ExceptionTableEntry) (hsplit : c.exceptionTable.toList = pre ++ x :: suf)
    (hpass : ∀ z ∈ pre, covers z pc = false ∨ (z.catchType ≠ 0 ∧ ∃ nm : String, (Cond.classLink own z.catchType nm).before args s = true ∧ va_Nc E nm s)) (hx : covers x pc = true) (h0 : x.catchType ≠ 0)
    (hlink : (Cond.classLink own x.catchType name).before args s = true) (hcast : (Cond.castable E name).before args s = true) (hcell : H[q]? = some ce) (hv : ce.vm = .none) (hcl : s.vm.findClass E = some ce.cls)
    (kk : W p l e R s m args below meth c H locs cells slots Q (F0 m x.handlerPc ls [.ref q])) : vx_W p l e R s m args below meth c H locs cells slots Q (F0 m pc ls rest) q := by
  intro T hT X
  have hpl : e.platform.magicAccessors = ({} : Platform).magicAccessors := by rw [X.admits.platform]
  obtain ⟨c3, c4, hc3, hc4, hasg⟩ := Cond.castable_spec hcast
  cases Option.some.inj (hc3.symm.trans hcl)
  obtain ⟨c5, hc5, hcl5⟩ := Cond.classLink_spec hown hlink e.platform hpl
  cases Option.some.inj (hc4.symm.trans hc5)
  obtain ⟨vm', X', st⟩ := X.thenCaughtThrough q (g := F0 m pc ls rest) rfl (Steps.refl _) (by rw [hT]; exact hcell) (by rw [hv]; rfl) (by obtain ⟨k9, h9, -⟩ := Vm.findClass_spec hcl; exact ⟨k9, h9⟩) pre x suf hsplit
    (fun z hz => by
      rcases hpass z hz with h | ⟨hz0, nm, hl1, hn1⟩
      · exact Or.inl h
      · obtain ⟨c6, hc6, hcl6⟩ := Cond.classLink_spec hown hl1 e.platform hpl
        obtain ⟨a8, b8, h1, h2, h3⟩ := hn1
        cases Option.some.inj (h1.symm.trans hcl)
        cases Option.some.inj (h2.symm.trans hc6)
        exact Or.inr ⟨hz0, _, hcl6, h3⟩) hx (Or.inr ⟨h0, c4, hcl5, hasg⟩)
  obtain ⟨t, a1, b1⟩ := kk (T.setVm vm') hT X'
  exact ⟨t, st.trans a1, b1⟩
end Rows
section Ends
variable {p : Program} {l : Launch} {e : Env} {R : Room} {s : State} {m : MethodId} {args : Array Value} {below : List Frame} {meth : Method} {c : Code} {H : Heap} {locs : List Loc} {cells slots : Nat} {Q : State → Prop}
variable {mc ms : Nat} {free : Addr → Prop} {A0 A1 : Nat → Prop} {H0 : Heap} {a : Array Value} {ls : Array Slot} {st0 rest : List Value}
variable {Qc : Array Value → State → Outcome → State → Prop} {XC : String → State → State → Prop}
/-- what a body that may throw owes at its end -/
def vx_MQ (below : List Frame) (Qc : Array Value → State → Outcome → State → Prop) (XC : String → State → State → Prop) (a : Array Value) (s : State) (mc ms : Nat) (free : Addr → Prop) : State → Prop := fun t =>
  ∃ o, t.status = .running ∧ Ended t below o ∧ vx_Q Qc XC mc ms free a s o t
theorem vx_ret {g : JFrame} {mc ms : Nat} (k : W p l e R s m args below meth c H locs cells slots (MQ below Qc args s mc ms free) g) : W p l e R s m args below meth c H locs cells slots (vx_MQ below Qc XC args s mc ms free) g := by
  intro T hT X
  obtain ⟨t, a1, o, b1, b2, b3, b4⟩ := k T hT X
  exact ⟨t, a1, o, b1, b2, Or.inl ⟨b3, b4⟩⟩
/-- not caught here: it goes on to the caller -/
theorem vx_widen {g : JFrame} {q : Addr} {k n : Nat} (h1 : cells ≤ k) (h2 : slots ≤ n) (kk : vx_W p l e R s m args below meth c H locs k n Q g q) : vx_W p l e R s m args below meth c H locs cells slots Q g q := fun T hT X => kk T hT (stand_widen X h1 h2)
theorem vx_out {pc : Nat} {E : String} {ce : Cell} {q : Addr} {mc ms : Nat} (hout : ∀ x ∈ c.exceptionTable.toList, covers x pc = false) (hlocks : meth.locks = false) (hcell : H[q]? = some ce) (hv : ce.vm = .none) (hcl : s.vm.findClass E = some ce.cls)
    (hx : ∀ t : State, t.heap = H → s.vm.Alike t.vm → XC E s t) (hf : ∀ z ∈ locs, free z.base) (hc : cells ≤ mc) (hs : slots ≤ ms) :
    vx_W p l e R s m args below meth c H locs cells slots (vx_MQ below Qc XC args s mc ms free) (F0 m pc ls rest) q := by
  intro T hT X
  obtain ⟨st1, hrun, hend, hW, hsm⟩ := X.leaveThrown q (g := F0 m pc ls rest) rfl rfl rfl hout hlocks
  have hcell9 : (T.setFrames (.throwing q :: below)).heap[q]? = some ce := by
    show T.heap[q]? = some ce
    rw [hT]; exact hcell
  exact ⟨_, st1, .threw q, hrun, hend, Or.inr ⟨q, rfl, E, ce, locs, hx _ hT hW.alike, hcell9, hv, hcl, hW, hsm.mono hc hs, hf⟩⟩
theorem vx_frame {U : State} {k n : Nat} (h : s.sameButNew ({ U with vm := s.vm } : State) locs k n) : s.heap.size ≤ U.heap.size ∧ ∀ q : Nat, q < s.heap.size → (∀ z ∈ locs, z.base ≠ q) → U.heap[q]? = s.heap[q]? := by
  obtain ⟨-, h2, -, -, -, h6⟩ := h
  refine ⟨h2, fun q hq hz => ?_⟩
  obtain ⟨c9, e1, e2, e3, e4⟩ := h6 q _ (Array.getElem?_eq_getElem hq)
  have hs : c9.slots = (s.heap[q]).slots := Array.ext_getElem? fun i => e4 i fun hm => hz _ hm rfl
  have h9 : c9 = s.heap[q] := by
    rw [hs] at e2
    exact e2
  have e5 : U.heap[q]? = some c9 := e1
  rw [e5, h9, Array.getElem?_eq_getElem hq]
/-- the words of a throw but the four that speak of the heap -/
def vx_no (w : Cond) : Bool := decide (w ≠ .isRef (.static Bundle.tN "UNASSIGNED_STACK" Bundle.steD)) && decide (w ≠ .isRef (.static Bundle.tN "SUPPRESSED_SENTINEL" Bundle.listD)) && decide (w ≠ .laysStatic Bundle.tN "UNASSIGNED_STACK" Bundle.steD) && decide (w ≠ .laysStatic Bundle.tN "SUPPRESSED_SENTINEL" Bundle.listD)
def vx_at0 (own : String) (ic : Nat) (X : String) (names : List String) : List Cond := (Bundle.ownAtoms0 own ic X names).filter vx_no
def vx_atS (own : String) (ic : Nat) (X : String) (names : List String) : List Cond := (Bundle.ownAtoms own ic X names).filter vx_no
/-- a word that the tables alone decide, or a good one -/
def vx_ot (w : Cond) : Bool := w.onTables || goodWord w
theorem vx_ot_at {args a' : Array Value} {s U : State} {w : Cond} (hW : s.WarmedH U.vm) (hvm : s.vm = U.vm) (hg : vx_ot w = true) (h : w.before args s = true) : w.before a' U = true := by
  simp only [vx_ot, Bool.or_eq_true] at hg
  rcases hg with hg | hg
  · exact va_tabs hg hvm h
  · exact word_at hW (good_of_word hg) h
/-- a list's words: the good ones out of the method's own list, the others by premises of their own -/
theorem vx_hat {args : Array Value} {s : State} {L B : List Cond} (h1 : ∀ w ∈ L.filter goodWord, w.before args s = true) (h2 : ∀ w ∈ L.filter (fun w => !goodWord w), w ∈ B) (h3 : ∀ w ∈ B, w.before args s = true) : ∀ w ∈ L, w.before args s = true := by
  intro w hw
  by_cases g : goodWord w = true
  · exact h1 w (List.mem_filter.mpr ⟨hw, g⟩)
  · refine h3 w (h2 w (List.mem_filter.mpr ⟨hw, ?_⟩))
    show (!goodWord w) = true
    cases hgw : goodWord w
    · rfl
    · exact absurd hgw g
theorem vx_c {args : Array Value} {s : State} {w : Cond} {B : List Cond} (h : w.before args s = true) (t : ∀ w ∈ B, w.before args s = true) : ∀ w' ∈ w :: B, w'.before args s = true := fun w' h' => (List.mem_cons.mp h').elim (fun e => by rw [e]; exact h) (t w')
theorem vx_n {args : Array Value} {s : State} : ∀ w ∈ ([] : List Cond), w.before args s = true := fun _ h => nomatch h
theorem vx_own {args : Array Value} {s : State} {L : List Cond} (h1 : ∀ w ∈ L.filter vx_no, w.before args s = true)
    (hU : (Cond.isRef (.static Bundle.tN "UNASSIGNED_STACK" Bundle.steD)).before args s = true) (hN : (Cond.isRef (.static Bundle.tN "SUPPRESSED_SENTINEL" Bundle.listD)).before args s = true)
    (lU : (Cond.laysStatic Bundle.tN "UNASSIGNED_STACK" Bundle.steD).before args s = true) (lN : (Cond.laysStatic Bundle.tN "SUPPRESSED_SENTINEL" Bundle.listD).before args s = true) : ∀ w ∈ L, w.before args s = true := by
  intro w hw
  by_cases e1 : w = .isRef (.static Bundle.tN "UNASSIGNED_STACK" Bundle.steD)
  · rw [e1]; exact hU
  · by_cases e2 : w = .isRef (.static Bundle.tN "SUPPRESSED_SENTINEL" Bundle.listD)
    · rw [e2]; exact hN
    · by_cases e3 : w = .laysStatic Bundle.tN "UNASSIGNED_STACK" Bundle.steD
      · rw [e3]; exact lU
      · by_cases e4 : w = .laysStatic Bundle.tN "SUPPRESSED_SENTINEL" Bundle.listD
        · rw [e4]; exact lN
        · exact h1 w (List.mem_filter.mpr ⟨hw, by unfold vx_no; rw [decide_eq_true e1, decide_eq_true e2, decide_eq_true e3, decide_eq_true e4]; rfl⟩)
/-- where a static field lies, its class's statics cell in H -/
def vx_L (C n d : String) (A : Nat → Prop) (U : State) (H : Heap) : Prop := ∃ (c : ClassId) (k : Class) (i : Nat) (f : Field) (a : Nat) (cell : Cell), U.vm.findClass C = some c ∧ U.fieldFound? C n d = some (c, k, i, f) ∧ f.isStatic = true ∧ k.statics = some a ∧ H[a]? = some cell ∧ cell.vm.isStatics = true ∧ cell.cls = c ∧ f.slot < cell.slots.size ∧ k.staticTypes[f.slot]? = some f.type ∧ ¬ A a
theorem vx_L.moved {C n d : String} {A : Nat → Prop} {u U : State} {H : Heap} (hvm : u.vm.Alike U.vm) (h : vx_L C n d A u H) : vx_L C n d A U H := by
  obtain ⟨c, k, i, f, a, cell, h1, h2, h3, h4, h5, h6, h7, h8, h9, h10⟩ := h
  obtain ⟨k', hi', he⟩ := State.fieldFound?_setVm hvm h2
  exact ⟨c, k', i, f, a, cell, by rw [hvm.findClass]; exact h1, hi', h3, by rw [he]; exact h4, h5, h6, h7, h8, by rw [he]; exact h9, h10⟩
theorem vx_L.kept {C n d : String} {A : Nat → Prop} {U : State} {H H1 : Heap} (h : vx_L C n d A U H) (hq : ∀ a : Nat, a < H.size → ¬ A a → H1[a]? = H[a]?) : vx_L C n d A U H1 := by
  obtain ⟨c, k, i, f, a, cell, h1, h2, h3, h4, h5, h6, h7, h8, h9, h10⟩ := h
  exact ⟨c, k, i, f, a, cell, h1, h2, h3, h4, by rw [hq a (Array.getElem?_eq_some_iff.mp h5).1 h10]; exact h5, h6, h7, h8, h9, h10⟩
theorem vx_L.narrow {C n d : String} {A B : Nat → Prop} {U : State} {H : Heap} (h : vx_L C n d A U H) (hAB : ∀ q, B q → A q) : vx_L C n d B U H := by
  obtain ⟨c, k, i, f, a, cell, h1, h2, h3, h4, h5, h6, h7, h8, h9, h10⟩ := h
  exact ⟨c, k, i, f, a, cell, h1, h2, h3, h4, h5, h6, h7, h8, h9, fun z => h10 (hAB _ z)⟩
theorem vx_L.word {C n d : String} {A : Nat → Prop} {s : State} {args : Array Value} (h : vx_L C n d A s s.heap) : (Cond.laysStatic C n d).before args s = true := by
  obtain ⟨c, k, i, f, a, cell, h1, h2, h3, h4, h5, h6, h7, h8, h9, -⟩ := h
  show (Cond.laysStatic C n d).holds args s none s [] = true
  exact Cond.laysStatic_of h1 h2 h3 h4 h5 h6 h7 h8 h9
/-- .. and what it holds: null or some reference -/
def vx_Zq (C n d : String) (A : Nat → Prop) (U : State) (H : Heap) : Prop := va_Zq C n d A U H ∧ vx_L C n d A U H
theorem vx_Zq.moved {C n d : String} {A : Nat → Prop} {u U : State} {H : Heap} (hvm : u.vm.Alike U.vm) (h : vx_Zq C n d A u H) : vx_Zq C n d A U H := ⟨va_Zq.moved hvm h.1, vx_L.moved hvm h.2⟩
theorem vx_Zq.kept {C n d : String} {A : Nat → Prop} {U : State} {H H1 : Heap} (h : vx_Zq C n d A U H) (hq : ∀ a : Nat, a < H.size → ¬ A a → H1[a]? = H[a]?) : vx_Zq C n d A U H1 := ⟨va_Zq.kept h.1 hq, vx_L.kept h.2 hq⟩
theorem vx_Zq.narrow {C n d : String} {A B : Nat → Prop} {U : State} {H : Heap} (h : vx_Zq C n d A U H) (hAB : ∀ q, B q → A q) : vx_Zq C n d B U H := ⟨va_Zq.narrow h.1 hAB, vx_L.narrow h.2 hAB⟩
theorem vx_Zqof {args : Array Value} {s : State} {C n d : String} {A : Nat → Prop} (hl : (Cond.laysStatic C n d).before args s = true) (hini : (Cond.initialized C).before args s = true) (h : (Cond.isRef (.static C n d)).before args s = true) (hA : ∀ a : Nat, a < s.heap.size → ¬ A a) : vx_Zq C n d A s s.heap := by
  refine ⟨va_Zqof hl hini h hA, ?_⟩
  obtain ⟨c, k, i, f, a, cell, h1, h2, h3, h4, h5, h6, h7, h8, h9⟩ := Cond.laysStatic_spec hl
  exact ⟨c, k, i, f, a, cell, h1, h2, h3, h4, h5, h6, h7, h8, h9, hA a (Array.getElem?_eq_some_iff.mp h5).1⟩
theorem vx_isRef {C n d : String} {v : Value} {A : Nat → Prop} {s : State} {args : Array Value} (h : va_Z C n d v A s s.heap) (hv : v.isRef = true) : (Cond.isRef (.static C n d)).before args s = true := by
  obtain ⟨cf, kf, fi, f, a, cell, h1, h2, h3, h4, h5, h6, h7, -⟩ := h
  have he : (Term.static C n d).eval args s none [] s = some v := by
    simp [Term.eval, State.fieldNamed?, h1, h2, h4, h5, h6, h7]
  simp only [Cond.before, Cond.holds, Cond.value, he]
  cases v <;> simp_all [Value.isRef]
theorem vx_isRefq {C n d : String} {A : Nat → Prop} {s : State} {args : Array Value} (h : va_Zq C n d A s s.heap) : (Cond.isRef (.static C n d)).before args s = true := by
  rcases h with h | ⟨t, h⟩
  · exact vx_isRef h rfl
  · exact vx_isRef h rfl
/-- the same frame, seen from here: as if the method were called anew in this heap -/
theorem vx_rebase {T : State} (X : Stand p l e R s m args below meth c T locs cells slots) {R' : Room} (hf : R'.frames ≤ R.frames) (hl : R'.locals ≤ R.locals) (hc : cells + R'.cells ≤ R.cells) (hs : slots + R'.slots ≤ R.slots) :
    Stand p l e R' ((T.setVm s.vm).setFrames (.invoking m args :: below)) m args below meth c T [] 0 0 := by
  have htop : (T.setVm s.vm).topJava?.isSome := X.here.top
  have hF : ((T.setVm s.vm).setFrames (.invoking m args :: below)).frames = .invoking m args :: below := State.frames_setFrames _ (State.cur_lt_of_top htop)
  obtain ⟨g₀, hg0⟩ := Option.isSome_iff_exists.mp htop
  obtain ⟨r, hr⟩ := State.topJava?_eq_some.mp hg0
  have hl9 : e.platform.stackLimits (T.setVm s.vm).me = e.platform.stackLimits s.me := X.limits
  have hb9 : (T.setVm s.vm).me.stackBytes = s.me.stackBytes := X.bytes
  refine ⟨X.admits, X.cas, X.clock, hF, ?_, X.hears, X.method, X.code, X.here, X.tail, X.warmed, ?_, ?_, ?_⟩
  · have h := X.room
    have hU : ((T.setVm s.vm).setFrames (.invoking m args :: below)).localsInUse = s.localsInUse := by
      rw [State.localsInUse_invoking hF (meth := meth) (c := c) X.method X.code, State.localsInUse_invoking X.frames X.method X.code]
    simp only [State.hasRoom, Bool.and_eq_true, decide_eq_true_eq] at h ⊢
    obtain ⟨⟨⟨⟨h1, h2, h3, h4, h5, h6⟩, h7⟩, h8⟩, h9⟩ := h
    rw [X.frames, List.length_cons] at h2 h3
    have q1 := X.heapSize
    have q2 := X.used
    simp only [hF, hU, List.length_cons, State.stackLimits_setFrames, State.stackBytes_setFrames, hl9, hb9]
    refine ⟨⟨⟨⟨by omega, by omega, by omega, by omega, by omega, h6⟩, ?_⟩, ?_⟩, X.book⟩
    · show T.heap.size + R'.cells ≤ e.platform.maxCells
      omega
    · show T.slotsUsed + R'.slots ≤ e.platform.maxSlots
      omega
  · rw [State.stackLimits_setFrames]; rfl
  · rw [State.stackBytes_setFrames]; rfl
  · refine ⟨?_, Nat.le_refl _, Nat.le_refl _, ?_, ?_, fun a c9 h9 => ⟨c9, h9, rfl, rfl, fun _ _ => rfl⟩⟩
    · obtain ⟨t, ht, -⟩ := State.frames_cons hr
      show T.setVm s.vm = { ((T.setVm s.vm).setFrames (.invoking m args :: below)).setFrames (T.setVm s.vm).frames with heap := T.heap, slotsUsed := T.slotsUsed }
      rw [State.setFrames_setFrames, State.setFrames_self ht]
      rfl
    · show T.slotsUsed = T.slotsUsed + ((T.heap.toList.drop T.heap.size).map (·.slots.size)).sum
      rw [List.drop_eq_nil_of_le (Nat.le_of_eq Array.length_toList)]
      rfl
    · show ((T.heap.toList.drop T.heap.size).map (·.slots.size)).sum ≤ 0
      rw [List.drop_eq_nil_of_le (Nat.le_of_eq Array.length_toList)]
      exact Nat.le_refl _
/-- 'throw new E()': new; dup; invokespecial; athrow -/
theorem vx_throw0 {cc : ByteArray} {pc : Nat} (hexec : p.tables.exec = Jvm.exec) (hb : c.code = cc) (hl : l.stackTraces = false) {own cls : String} {names : List String} {ik ic mc ms : Nat} {A : Nat → Prop}
    (hown : s.vm.findClass own = some m.cls) (hcls : Bundle.fit cls = true) (hnames : ∀ n ∈ names, Bundle.fit n = true)
    (hk : (Cond.classLink own ik cls).before args s = true) (hini : (Cond.initialized cls).before args s = true) (hat : ∀ w ∈ vx_at0 own ic cls names, w.before args s = true)
    (hgood : ∀ w ∈ Cond.classLink own ik cls :: Cond.initialized cls :: vx_at0 own ic cls names, vx_ot w = true)
    (hU : vx_Zq Bundle.tN "UNASSIGNED_STACK" Bundle.steD A s s.heap) (hN : vx_Zq Bundle.tN "SUPPRESSED_SENTINEL" Bundle.listD A s s.heap) (hS : va_S A s.heap H locs) (hsize : ls.size = c.maxLocals)
    (d0 : decode cc pc = .ok (.new ik, 3)) (d3 : decode cc (pc + 3) = .ok (.dup, 1)) (d4 : decode cc (pc + 4) = .ok (.invokespecial ic, 3)) (d7 : decode cc (pc + 7) = .ok (.athrow, 1))
    (hout : ∀ x ∈ c.exceptionTable.toList, covers x (pc + 7) = false)
    (hRframes : names.length + 3 < R.frames) (hRlocals : (rest.map fun v => v.category).sum + (13 * (names.length + 1) + 42) ≤ R.locals) (hRcells : cells + 1 ≤ R.cells) (hRslots : slots + 6 ≤ R.slots) (hlocks : meth.locks = false)
    (hx : ∀ t : State, s.vm.Alike t.vm → H.size ≤ t.heap.size → (∀ q : Nat, q < H.size → t.heap[q]? = H[q]?) → XC cls s t)
    (hf : ∀ z ∈ locs, free z.base) (hc : cells + 1 ≤ mc) (hs : slots + 6 ≤ ms) :
    W p l e R s m args below meth c H locs cells slots (vx_MQ below Qc XC args s mc ms free) (F0 m pc ls rest) := by
  intro T hT X
  have htr : e.platform.stackTraces = false := (show e.platform.stackTraces = l.stackTraces by rw [X.admits.platform]).trans hl
  have Y := vx_rebase X (R' := { frames := R.frames, locals := R.locals, cells := 1, slots := 6 }) (Nat.le_refl _) (Nat.le_refl _) hRcells hRslots
  obtain ⟨s', hA⟩ : ∃ z, z = (T.setVm s.vm).setFrames (.invoking m args :: below) := ⟨_, rfl⟩
  rw [← hA] at Y
  have hvm : s'.vm = s.vm := by rw [hA]; rfl
  have hhp : s'.heap = H := by rw [hA]; exact hT
  have hW0 : s.WarmedH s'.vm := by rw [hvm]; exact State.WarmedH.refl s
  have hat' : ∀ w ∈ vx_at0 own ic cls names, w.before args s' = true := fun w hw => vx_ot_at hW0 hvm.symm (hgood w (List.mem_cons_of_mem _ (List.mem_cons_of_mem _ hw))) (hat w hw)
  have hk' : (Cond.classLink own ik cls).before args s' = true := vx_ot_at hW0 hvm.symm (hgood _ List.mem_cons_self) hk
  have hini' : (Cond.initialized cls).before args s' = true := vx_ot_at hW0 hvm.symm (hgood _ (List.mem_cons_of_mem _ List.mem_cons_self)) hini
  have hU' : vx_Zq Bundle.tN "UNASSIGNED_STACK" Bundle.steD A s' s'.heap := by rw [hhp]; exact vx_Zq.moved hW0.alike (hU.kept hS.2.1)
  have hN' : vx_Zq Bundle.tN "SUPPRESSED_SENTINEL" Bundle.listD A s' s'.heap := by rw [hhp]; exact vx_Zq.moved hW0.alike (hN.kept hS.2.1)
  have h : ∀ w ∈ Bundle.ownAtoms0 own ic cls names, w.before args s' = true := vx_own hat' (vx_isRefq hU'.1) (vx_isRefq hN'.1) hU'.2.word hN'.2.word
  have hown' : s'.vm.findClass own = some m.cls := by rw [hvm]; exact hown
  have hins : (Cond.instantiable cls 6).before args s' = true := h _ (by simp [Bundle.ownAtoms0])
  obtain ⟨vm₁, cX, kX, hfX, hkX, -, -, X₁, st1⟩ := Y.newCold hexec (own := own) (C := cls) (index := ik) (n := 6) hown' hk' hins hini'
    (g := F0 m pc ls rest) rfl (by rw [hb]; exact d0) (Nat.le_refl _) (Nat.le_refl _)
  generalize hT1 : (T.setVm vm₁).pushCell { cls := cX, slots := kX.instanceTypes.map defaultValue, vm := .none } = T1 at X₁ st1
  have hcat : (Value.ref T.heap.size).category = 1 := rfl
  have hcellA : T1.heap[T.heap.size]? = some (freshCell cX kX) := by rw [← hT1]; exact State.heap_pushCell_size _ _
  have d3' : decode c.code (pc + 3) = .ok (.dup, 1) := by rw [hb]; exact d3
  obtain ⟨U, hsteps, hrun, hend, hW, hsame, ce, hce, hO⟩ := X₁.ctorThrow0 hexec htr (own := own) (cls := cls) (names := names) (ic := ic) hown' hcls hnames h (fun x hx => nomatch hx) hfX hkX hcellA (by rw [hhp, hT]; exact Nat.le_refl _)
    (g := { method := m, pc := pc + 4, locals := ls, stack := .ref T.heap.size :: .ref T.heap.size :: rest, locked := none }) rfl hsize rfl rfl (rest := rest) rfl
    (by rw [hb]; exact d4) (by rw [hb]; exact d7) hout hRframes (by simp only [List.map_cons, List.sum_cons, hcat]; omega) hlocks
  obtain ⟨f1, f2⟩ := vx_frame hsame
  rw [hhp] at f1 f2
  have hWs : s.WarmedH U.vm := State.WarmedH.trans hW0 hW
  have hcl : s.vm.findClass cls = some ce.cls := by
    have h9 := hO.cls
    rw [hvm] at h9
    exact h9
  have hall : s.sameButNew ({ U with vm := s.vm } : State) locs mc ms := by
    subst hA
    obtain ⟨e1, e2⟩ := hsame
    rw [State.setFrames_setFrames] at e1
    have h2 : (T.setVm s.vm).sameButNew ({ U with vm := s.vm } : State) [] (0 + 1) (0 + 6) := ⟨e1, e2⟩
    have h3 := X.same.trans h2
    rw [List.append_nil] at h3
    exact h3.mono hc hs
  refine ⟨U, ?_, .threw T.heap.size, hrun, hend, Or.inr ⟨T.heap.size, rfl, cls, ce, locs, hx U hWs.alike f1 (fun q hq => f2 q hq (fun z hz => nomatch hz)), hce, hO.vm, hcl, hWs, hall, hf⟩⟩
  refine st1 _ ?_
  show Steps p.tables e below (T1.setTop { method := m, pc := pc + 3, locals := ls, stack := .ref T.heap.size :: rest, locked := none }) _
  jvm_step X₁.here [X₁.here.top, hexec, d3', Value.category]
  exact hsteps
/-- 'throw new E("text")': new; dup; ldc; invokespecial; athrow -/
theorem vx_throwS {cc : ByteArray} {pc : Nat} (hexec : p.tables.exec = Jvm.exec) (hb : c.code = cc) (hl : l.stackTraces = false) {own cls text : String} {names : List String} {ik is ic mc ms sa : Nat} {A : Nat → Prop}
    (hown : s.vm.findClass own = some m.cls) (hcls : Bundle.fit cls = true) (hnames : ∀ n ∈ names, Bundle.fit n = true)
    (hk : (Cond.classLink own ik cls).before args s = true) (hini : (Cond.initialized cls).before args s = true) (hstr : vk_R own is text sa s) (hat : ∀ w ∈ vx_atS own ic cls names, w.before args s = true)
    (hgood : ∀ w ∈ Cond.classLink own ik cls :: Cond.initialized cls :: vx_atS own ic cls names, vx_ot w = true)
    (hU : vx_Zq Bundle.tN "UNASSIGNED_STACK" Bundle.steD A s s.heap) (hN : vx_Zq Bundle.tN "SUPPRESSED_SENTINEL" Bundle.listD A s s.heap) (hS : va_S A s.heap H locs) (hsize : ls.size = c.maxLocals)
    (d0 : decode cc pc = .ok (.new ik, 3)) (d3 : decode cc (pc + 3) = .ok (.dup, 1)) (d4 : decode cc (pc + 4) = .ok (.ldc is, 2)) (d6 : decode cc (pc + 6) = .ok (.invokespecial ic, 3)) (d9 : decode cc (pc + 9) = .ok (.athrow, 1))
    (hout : ∀ x ∈ c.exceptionTable.toList, covers x (pc + 9) = false)
    (hRframes : names.length + 3 < R.frames) (hRlocals : (rest.map fun v => v.category).sum + (13 * (names.length + 1) + 43) ≤ R.locals) (hRcells : cells + 1 ≤ R.cells) (hRslots : slots + 6 ≤ R.slots) (hlocks : meth.locks = false)
    (hx : ∀ t : State, s.vm.Alike t.vm → H.size ≤ t.heap.size → (∀ q : Nat, q < H.size → t.heap[q]? = H[q]?) → XC cls s t)
    (hf : ∀ z ∈ locs, free z.base) (hc : cells + 1 ≤ mc) (hs : slots + 6 ≤ ms) :
    W p l e R s m args below meth c H locs cells slots (vx_MQ below Qc XC args s mc ms free) (F0 m pc ls rest) := by
  intro T hT X
  have htr : e.platform.stackTraces = false := (show e.platform.stackTraces = l.stackTraces by rw [X.admits.platform]).trans hl
  have Y := vx_rebase X (R' := { frames := R.frames, locals := R.locals, cells := 1, slots := 6 }) (Nat.le_refl _) (Nat.le_refl _) hRcells hRslots
  obtain ⟨s', hA⟩ : ∃ z, z = (T.setVm s.vm).setFrames (.invoking m args :: below) := ⟨_, rfl⟩
  rw [← hA] at Y
  have hvm : s'.vm = s.vm := by rw [hA]; rfl
  have hhp : s'.heap = H := by rw [hA]; exact hT
  have hW0 : s.WarmedH s'.vm := by rw [hvm]; exact State.WarmedH.refl s
  have hat' : ∀ w ∈ vx_atS own ic cls names, w.before args s' = true := fun w hw => vx_ot_at hW0 hvm.symm (hgood w (List.mem_cons_of_mem _ (List.mem_cons_of_mem _ hw))) (hat w hw)
  have hk' : (Cond.classLink own ik cls).before args s' = true := vx_ot_at hW0 hvm.symm (hgood _ List.mem_cons_self) hk
  have hini' : (Cond.initialized cls).before args s' = true := vx_ot_at hW0 hvm.symm (hgood _ (List.mem_cons_of_mem _ List.mem_cons_self)) hini
  have hU' : vx_Zq Bundle.tN "UNASSIGNED_STACK" Bundle.steD A s' s'.heap := by rw [hhp]; exact vx_Zq.moved hW0.alike (hU.kept hS.2.1)
  have hN' : vx_Zq Bundle.tN "SUPPRESSED_SENTINEL" Bundle.listD A s' s'.heap := by rw [hhp]; exact vx_Zq.moved hW0.alike (hN.kept hS.2.1)
  have h : ∀ w ∈ Bundle.ownAtoms own ic cls names, w.before args s' = true := vx_own hat' (vx_isRefq hU'.1) (vx_isRefq hN'.1) hU'.2.word hN'.2.word
  have hown' : s'.vm.findClass own = some m.cls := by rw [hvm]; exact hown
  have hins : (Cond.instantiable cls 6).before args s' = true := h _ (by simp [Bundle.ownAtoms])
  obtain ⟨vm₁, cX, kX, hfX, hkX, -, -, X₁, st1⟩ := Y.newCold hexec (own := own) (C := cls) (index := ik) (n := 6) hown' hk' hins hini'
    (g := F0 m pc ls rest) rfl (by rw [hb]; exact d0) (Nat.le_refl _) (Nat.le_refl _)
  generalize hT1 : (T.setVm vm₁).pushCell { cls := cX, slots := kX.instanceTypes.map defaultValue, vm := .none } = T1 at X₁ st1
  have hcat : (Value.ref T.heap.size).category = 1 := rfl
  have hcellA : T1.heap[T.heap.size]? = some (freshCell cX kX) := by rw [← hT1]; exact State.heap_pushCell_size _ _
  have d3' : decode c.code (pc + 3) = .ok (.dup, 1) := by rw [hb]; exact d3
  have d4' : decode c.code (pc + 4) = .ok (.ldc is, 2) := by rw [hb]; exact d4
  have hstr' : vk_R own is text sa s' := vk_R.warm hW0 hstr
  obtain ⟨U, hsteps, hrun, hend, hW, hsame, ce, hce, hO⟩ := X₁.ctorThrowS hexec htr (own := own) (cls := cls) (names := names) (ic := ic) hown' hcls hnames h (fun x hx => nomatch hx) hfX hkX hcellA (by rw [hhp, hT]; exact Nat.le_refl _) (msg := .ref sa) rfl
    (g := { method := m, pc := pc + 6, locals := ls, stack := .ref sa :: .ref T.heap.size :: .ref T.heap.size :: rest, locked := none }) rfl hsize rfl rfl (rest := rest) rfl
    (by rw [hb]; exact d6) (by rw [hb]; exact d9) hout hRframes (by simp only [List.map_cons, List.sum_cons, hcat]; omega) hlocks
  obtain ⟨f1, f2⟩ := vx_frame hsame
  rw [hhp] at f1 f2
  have hWs : s.WarmedH U.vm := State.WarmedH.trans hW0 hW
  have hcl : s.vm.findClass cls = some ce.cls := by
    have h9 := hO.cls
    rw [hvm] at h9
    exact h9
  have hall : s.sameButNew ({ U with vm := s.vm } : State) locs mc ms := by
    subst hA
    obtain ⟨e1, e2⟩ := hsame
    rw [State.setFrames_setFrames] at e1
    have h2 : (T.setVm s.vm).sameButNew ({ U with vm := s.vm } : State) [] (0 + 1) (0 + 6) := ⟨e1, e2⟩
    have h3 := X.same.trans h2
    rw [List.append_nil] at h3
    exact h3.mono hc hs
  refine ⟨U, ?_, .threw T.heap.size, hrun, hend, Or.inr ⟨T.heap.size, rfl, cls, ce, locs, hx U hWs.alike f1 (fun q hq => f2 q hq (fun z hz => nomatch hz)), hce, hO.vm, hcl, hWs, hall, hf⟩⟩
  refine st1 _ ?_
  show Steps p.tables e below (T1.setTop { method := m, pc := pc + 3, locals := ls, stack := .ref T.heap.size :: rest, locked := none }) _
  jvm_step X₁.here [X₁.here.top, hexec, d3', Value.category]
  exact X₁.ldcString hexec (own := own) (text := text) (index := is) (a := sa) hown' hstr'.1 hstr'.2
    (g := { method := m, pc := pc + 4, locals := ls, stack := .ref T.heap.size :: .ref T.heap.size :: rest, locked := none }) rfl d4' _ hsteps
/-- 'throw new E("text")', the text by a wide index -/
theorem vx_throwSW {cc : ByteArray} {pc : Nat} (hexec : p.tables.exec = Jvm.exec) (hb : c.code = cc) (hl : l.stackTraces = false) {own cls text : String} {names : List String} {ik is ic mc ms sa : Nat} {A : Nat → Prop}
    (hown : s.vm.findClass own = some m.cls) (hcls : Bundle.fit cls = true) (hnames : ∀ n ∈ names, Bundle.fit n = true)
    (hk : (Cond.classLink own ik cls).before args s = true) (hini : (Cond.initialized cls).before args s = true) (hstr : vk_R own is text sa s) (hat : ∀ w ∈ vx_atS own ic cls names, w.before args s = true)
    (hgood : ∀ w ∈ Cond.classLink own ik cls :: Cond.initialized cls :: vx_atS own ic cls names, vx_ot w = true)
    (hU : vx_Zq Bundle.tN "UNASSIGNED_STACK" Bundle.steD A s s.heap) (hN : vx_Zq Bundle.tN "SUPPRESSED_SENTINEL" Bundle.listD A s s.heap) (hS : va_S A s.heap H locs) (hsize : ls.size = c.maxLocals)
    (d0 : decode cc pc = .ok (.new ik, 3)) (d3 : decode cc (pc + 3) = .ok (.dup, 1)) (d4 : decode cc (pc + 4) = .ok (.ldc_w is, 3)) (d7 : decode cc (pc + 7) = .ok (.invokespecial ic, 3)) (d10 : decode cc (pc + 10) = .ok (.athrow, 1))
    (hout : ∀ x ∈ c.exceptionTable.toList, covers x (pc + 10) = false)
    (hRframes : names.length + 3 < R.frames) (hRlocals : (rest.map fun v => v.category).sum + (13 * (names.length + 1) + 43) ≤ R.locals) (hRcells : cells + 1 ≤ R.cells) (hRslots : slots + 6 ≤ R.slots) (hlocks : meth.locks = false)
    (hx : ∀ t : State, s.vm.Alike t.vm → H.size ≤ t.heap.size → (∀ q : Nat, q < H.size → t.heap[q]? = H[q]?) → XC cls s t)
    (hf : ∀ z ∈ locs, free z.base) (hc : cells + 1 ≤ mc) (hs : slots + 6 ≤ ms) :
    W p l e R s m args below meth c H locs cells slots (vx_MQ below Qc XC args s mc ms free) (F0 m pc ls rest) := by
  intro T hT X
  have htr : e.platform.stackTraces = false := (show e.platform.stackTraces = l.stackTraces by rw [X.admits.platform]).trans hl
  have Y := vx_rebase X (R' := { frames := R.frames, locals := R.locals, cells := 1, slots := 6 }) (Nat.le_refl _) (Nat.le_refl _) hRcells hRslots
  obtain ⟨s', hA⟩ : ∃ z, z = (T.setVm s.vm).setFrames (.invoking m args :: below) := ⟨_, rfl⟩
  rw [← hA] at Y
  have hvm : s'.vm = s.vm := by rw [hA]; rfl
  have hhp : s'.heap = H := by rw [hA]; exact hT
  have hW0 : s.WarmedH s'.vm := by rw [hvm]; exact State.WarmedH.refl s
  have hat' : ∀ w ∈ vx_atS own ic cls names, w.before args s' = true := fun w hw => vx_ot_at hW0 hvm.symm (hgood w (List.mem_cons_of_mem _ (List.mem_cons_of_mem _ hw))) (hat w hw)
  have hk' : (Cond.classLink own ik cls).before args s' = true := vx_ot_at hW0 hvm.symm (hgood _ List.mem_cons_self) hk
  have hini' : (Cond.initialized cls).before args s' = true := vx_ot_at hW0 hvm.symm (hgood _ (List.mem_cons_of_mem _ List.mem_cons_self)) hini
  have hU' : vx_Zq Bundle.tN "UNASSIGNED_STACK" Bundle.steD A s' s'.heap := by rw [hhp]; exact vx_Zq.moved hW0.alike (hU.kept hS.2.1)
  have hN' : vx_Zq Bundle.tN "SUPPRESSED_SENTINEL" Bundle.listD A s' s'.heap := by rw [hhp]; exact vx_Zq.moved hW0.alike (hN.kept hS.2.1)
  have h : ∀ w ∈ Bundle.ownAtoms own ic cls names, w.before args s' = true := vx_own hat' (vx_isRefq hU'.1) (vx_isRefq hN'.1) hU'.2.word hN'.2.word
  have hown' : s'.vm.findClass own = some m.cls := by rw [hvm]; exact hown
  have hins : (Cond.instantiable cls 6).before args s' = true := h _ (by simp [Bundle.ownAtoms])
  obtain ⟨vm₁, cX, kX, hfX, hkX, -, -, X₁, st1⟩ := Y.newCold hexec (own := own) (C := cls) (index := ik) (n := 6) hown' hk' hins hini'
    (g := F0 m pc ls rest) rfl (by rw [hb]; exact d0) (Nat.le_refl _) (Nat.le_refl _)
  generalize hT1 : (T.setVm vm₁).pushCell { cls := cX, slots := kX.instanceTypes.map defaultValue, vm := .none } = T1 at X₁ st1
  have hcat : (Value.ref T.heap.size).category = 1 := rfl
  have hcellA : T1.heap[T.heap.size]? = some (freshCell cX kX) := by rw [← hT1]; exact State.heap_pushCell_size _ _
  have d3' : decode c.code (pc + 3) = .ok (.dup, 1) := by rw [hb]; exact d3
  have d4' : decode c.code (pc + 4) = .ok (.ldc_w is, 3) := by rw [hb]; exact d4
  have hstr' : vk_R own is text sa s' := vk_R.warm hW0 hstr
  obtain ⟨U, hsteps, hrun, hend, hW, hsame, ce, hce, hO⟩ := X₁.ctorThrowS hexec htr (own := own) (cls := cls) (names := names) (ic := ic) hown' hcls hnames h (fun x hx => nomatch hx) hfX hkX hcellA (by rw [hhp, hT]; exact Nat.le_refl _) (msg := .ref sa) rfl
    (g := { method := m, pc := pc + 7, locals := ls, stack := .ref sa :: .ref T.heap.size :: .ref T.heap.size :: rest, locked := none }) rfl hsize rfl rfl (rest := rest) rfl
    (by rw [hb]; exact d7) (by rw [hb]; exact d10) hout hRframes (by simp only [List.map_cons, List.sum_cons, hcat]; omega) hlocks
  obtain ⟨f1, f2⟩ := vx_frame hsame
  rw [hhp] at f1 f2
  have hWs : s.WarmedH U.vm := State.WarmedH.trans hW0 hW
  have hcl : s.vm.findClass cls = some ce.cls := by
    have h9 := hO.cls
    rw [hvm] at h9
    exact h9
  have hall : s.sameButNew ({ U with vm := s.vm } : State) locs mc ms := by
    subst hA
    obtain ⟨e1, e2⟩ := hsame
    rw [State.setFrames_setFrames] at e1
    have h2 : (T.setVm s.vm).sameButNew ({ U with vm := s.vm } : State) [] (0 + 1) (0 + 6) := ⟨e1, e2⟩
    have h3 := X.same.trans h2
    rw [List.append_nil] at h3
    exact h3.mono hc hs
  refine ⟨U, ?_, .threw T.heap.size, hrun, hend, Or.inr ⟨T.heap.size, rfl, cls, ce, locs, hx U hWs.alike f1 (fun q hq => f2 q hq (fun z hz => nomatch hz)), hce, hO.vm, hcl, hWs, hall, hf⟩⟩
  refine st1 _ ?_
  show Steps p.tables e below (T1.setTop { method := m, pc := pc + 3, locals := ls, stack := .ref T.heap.size :: rest, locked := none }) _
  jvm_step X₁.here [X₁.here.top, hexec, d3', Value.category]
  exact X₁.ldcStringW hexec (own := own) (text := text) (index := is) (a := sa) hown' hstr'.1 hstr'.2
    (g := { method := m, pc := pc + 4, locals := ls, stack := .ref T.heap.size :: .ref T.heap.size :: rest, locked := none }) rfl d4' _ hsteps
end Ends
section Bodies
variable {l : Launch}
theorem vx_ofW {y : MethodName} {ws ws' : List Cond} {rm : Room} {Pc : Array Value → State → Prop} {Qc : Array Value → State → Outcome → State → Prop} {XC : String → State → State → Prop} {mc ms : Nat} {free : Addr → Prop} {cc : ByteArray} {maxL : Nat} {ret : Option FieldType}
    (hy : plainName y.cls = true) (hw : ws = Cond.code y cc maxL ret :: ws')
    (body : ∀ p e s m args below meth c s₁, BodyLoose p l y (headSpec ws rm) cc maxL ret e s m args below meth c s₁ → c.maxLocals = maxL → (∀ x ∈ c.exceptionTable.toList, False) → Pc args s →
      W p l e (headSpec ws rm).room s m args below meth c s.heap [] 0 0 (vx_MQ below Qc XC args s mc ms free) (entryFrame m args maxL)) : vx_Met l y ws rm Pc Qc XC mc ms free := by
  refine MetFree.of_bodyS (code := cc) (maxLocals := maxL) (ret := ret) hy ?_ ?_
  · intro args s m h hn
    obtain ⟨meth, c, h1, h2, h3, h4, h5, h6, -, -⟩ := Cond.code_spec hn (atoms_spec (ws := ws) h _ (by rw [hw]; exact List.mem_cons_self))
    exact ⟨meth, c, h1, h2, h3, h4, h5, h6⟩
  · intro p e s m args below meth c s₁ B hml hP _
    have hh0 : s₁.heap = s.heap := by rw [B.state]; rfl
    have ht : ∀ x ∈ c.exceptionTable.toList, False := by
      obtain ⟨meth9, c9, h1, h2, -, -, -, -, h7, -⟩ := Cond.code_spec B.named (atoms_spec (ws := ws) B.pre _ (by rw [hw]; exact List.mem_cons_self))
      cases Option.some.inj (h1.symm.trans B.method)
      cases Option.some.inj (h2.symm.trans (Stand.of_body B).code)
      intro x hx
      rw [Array.isEmpty_iff.mp h7] at hx
      cases hx
    obtain ⟨t, a1, o, b1, b2, b3⟩ := body p e s m args below meth c s₁ B hml ht hP s₁ hh0 (Stand.of_body B)
    exact ⟨t, o, a1, b1, b2, b3⟩
/-- the table of a body with handlers -/
theorem vx_table {p : Program} {x y : MethodName} {S : Spec} {cc bytes : ByteArray} {maxL maxL' : Nat} {ret ret' : Option FieldType} {e : Env} {s s₁ : State} {m : MethodId} {args : Array Value} {below : List Frame} {meth : Method} {c : Code} {hh : List (Nat × Nat × Nat × Nat)}
    (B : BodyLoose p l y S cc maxL ret e s m args below meth c s₁) (h : (Cond.codeWith y bytes maxL' ret' hh).before args s = true) : c.exceptionTable.toList = tableOf hh := by
  obtain ⟨m9, meth9, c9, hn9, h1, h2, -, -, h6, -⟩ := Cond.codeWith_spec h
  cases Option.some.inj (hn9.symm.trans B.named)
  cases Option.some.inj (h1.symm.trans B.method)
  cases Option.some.inj (h2.symm.trans (Stand.of_body B).code)
  rw [← h6, table_eq]
end Bodies
end VXA
/-! ===== END ===== -/
/-! ===== BEGIN a static call of a method with an exception table ===== -/
section VXS
variable {p : Program} {l : Launch} {e : Env} {R : Room} {s : State} {m : MethodId} {args : Array Value} {below : List Frame} {meth : Method} {c : Code} {T : State} {H : Heap} {locs : List Loc} {cells slots : Nat}
abbrev vx_CSW (R : Room) (s : State) (args : Array Value) (own : String) (index : Nat) (y : MethodName) (bytes : ByteArray) (maxL : Nat) (ret : Option FieldType) (hh : List (Nat × Nat × Nat × Nat)) (ws : List Cond) (rm : Room) (mc ms n : Nat) : Prop :=
  (rm.cells = mc ∧ rm.slots = ms ∧ rm.frames + 1 ≤ R.frames ∧ 8 + (maxL + 11) + rm.locals ≤ R.locals ∧ (∀ w ∈ ws, ∀ (a' : Array Value) (U : State), s.WarmedH U.vm → w.before a' U = true) ∧ Cond.codeWith y bytes maxL ret hh ∈ ws) ∧
  (Cond.codeWith y bytes maxL ret hh).before args s = true ∧ (Cond.initialized y.cls).before args s = true ∧ (y.cls ≠ "java/lang/invoke/MethodHandle" ∧ y.cls ≠ "java/lang/invoke/VarHandle") ∧
  (∀ sig, parseMethodDescriptor y.desc = some sig → n = sig.parameters.length) ∧ (Cond.methodLink own index y).before args s = true ∧ (Cond.static y).before args s = true
theorem vx_cwSW {own : String} {index maxL mc ms : Nat} {y : MethodName} {bytes : ByteArray} {ret : Option FieldType} {hh : List (Nat × Nat × Nat × Nat)} {Ts ws ws' : List Cond} {rm : Room} (n : Nat) (ht : ∀ w ∈ Ts, w.before args s = true) (hT : GoodIn Ts (va_wsS own index y ws)) (hw : ws = Cond.codeWith y bytes maxL ret hh :: ws') (hrc : rm.cells = mc) (hrs : rm.slots = ms)
    (hd : y.cls ≠ "java/lang/invoke/MethodHandle" ∧ y.cls ≠ "java/lang/invoke/VarHandle" ∧ (parseMethodDescriptor y.desc).map (fun d => d.parameters.length) = some n) (hR : rm.frames + 1 ≤ R.frames ∧ 8 + (maxL + 11) + rm.locals ≤ R.locals) :
    vx_CSW R s args own index y bytes maxL ret hh ws rm mc ms n := by
  have ok : ∀ w ∈ va_wsS own index y ws, w.before args s = true := fun w h => ht w (hT w h).1
  have hG : GoodIn Ts ws := fun w h => hT w (by unfold va_wsS; exact List.mem_append_right _ h)
  have hc : Cond.codeWith y bytes maxL ret hh ∈ ws := by rw [hw]; exact List.mem_cons_self
  refine ⟨⟨hrc, hrs, hR.1, hR.2, pay_in ht hG, hc⟩, ht _ (hG _ hc).1, ok _ (by simp [va_wsS]), ⟨hd.1, hd.2.1⟩, fun sig h => ?_, ok _ (by simp [va_wsS]), ok _ (by simp [va_wsS])⟩
  have h2 := hd.2.2
  rw [h] at h2
  exact (Option.some.inj h2).symm
theorem vx_callSW (X : Stand p l e R s m args below meth c T locs cells slots) (hexec : p.tables.exec = Jvm.exec) {own : String} {index : Nat} {y : MethodName} {bytes : ByteArray} {maxL : Nat} {ret : Option FieldType} {hh : List (Nat × Nat × Nat × Nat)}
    (hown : s.vm.findClass own = some m.cls) (hlink : (Cond.methodLink own index y).before args s = true) (hstat : (Cond.static y).before args s = true) (hinit : (Cond.initialized y.cls).before args s = true)
    (hcode : (Cond.codeWith y bytes maxL ret hh).before args s = true) (hy : y.cls ≠ "java/lang/invoke/MethodHandle" ∧ y.cls ≠ "java/lang/invoke/VarHandle")
    {W9 : Nat} {Pre : Pt → Array Value → Prop} {Post : Pt → Array Value → Option Value → Pt → Prop} (hK : Back l R p e below s args y 3 W9 Pre Post)
    {g : JFrame} (hg : g.method = m) (hsize : g.locals.size = c.maxLocals) {argsL rest : List Value} (hlen : ∀ sig, parseMethodDescriptor y.desc = some sig → argsL.length = sig.parameters.length)
    (hstack : g.stack = argsL.reverse ++ rest) (hW : 2 * g.monitorRoom + (rest.map fun v => v.category).sum ≤ W9) (hdg : decode c.code g.pc = .ok (.invokestatic index, 3))
    (hpre : ∀ vm₁, s.WarmedH vm₁ → Pre ⟨T.setVm vm₁, locs, cells, slots⟩ argsL.toArray) :
    ∃ (v : Option Value) (vm₁ : Vm) (B : Pt), s.WarmedH vm₁ ∧ Stand p l e R s m args below meth c B.U B.locs B.cells B.slots ∧ Post ⟨T.setVm vm₁, locs, cells, slots⟩ argsL.toArray v B ∧
      ∀ target, Steps p.tables e below (B.U.setTop { g with pc := g.pc + 3, stack := v.toList ++ rest }) target → Steps p.tables e below (T.setTop g) target := by
  obtain ⟨mk, methM, cM, hnamed, hmethM, -, -, -, -, -, -, hsigM⟩ := Cond.codeWith_spec hcode
  have hstatic : methM.isStatic = true := Cond.static_spec hnamed hmethM hstat
  obtain ⟨kP, hkP, -⟩ := className_of_methodNamed hnamed
  have hinitP : kP.init = .initialized := Cond.initialized_spec (findClass_of_methodNamed hnamed) hkP hinit
  obtain ⟨vm₁, X₁, hstep₁⟩ := X.invokestatic hexec hown hlink hnamed hmethM hstatic hkP hinitP hy (g := g) hg (argsL := argsL) (rest := rest) (hlen _ hsigM) hstack hdg
  obtain ⟨v, B, X', hpost, hsteps⟩ := hK m meth c ⟨T.setVm vm₁, locs, cells, slots⟩ { g with stack := rest } (.invokestatic index) mk argsL.toArray X₁ hg hsize hdg hW (X₁.named hnamed) (hpre vm₁ X₁.warmed)
  exact ⟨v, vm₁, B, X₁.warmed, X', hpost, fun target h => hstep₁ _ fun acts => by rw [doInvoke_state]; exact hsteps.trans h⟩
theorem vx_runSW {y : MethodName} {bytes cc : ByteArray} {maxL nL mc ms n index : Nat} {ret : Option FieldType} {hh : List (Nat × Nat × Nat × Nat)} {ws : List Cond} {rm : Room} {Pc : Array Value → State → Prop} {Qc : Array Value → State → Outcome → State → Prop} {free : Addr → Prop} {Ts : List Cond} {own : String} {As rest : List Value} {g : JFrame}
    (S : CallFix p m c cc nL s args Ts own) (hM : Met l y ws rm Pc Qc mc ms free) (cw : vx_CSW R s args own index y bytes maxL ret hh ws rm mc ms n) (hp : PreS s H Pc As)
    (hg : g.method = m) (hn : As.length = n) (hsize : g.locals.size = nL) (hstack : g.stack = As.reverse ++ rest) (hW : 2 * g.monitorRoom + (rest.map fun v => v.category).sum ≤ 8) (hdg : decode cc g.pc = .ok (.invokestatic index, 3)) (hf : cells + mc ≤ R.cells ∧ slots + ms ≤ R.slots) :
    va_Run p l e R s m args below meth c H locs cells slots mc ms g rest (Qc As.toArray) (free) := by
  obtain ⟨⟨hrc, hrs, hfr, hlo, hws, hcw⟩, hcode, hini, hy, hlen, hl, hstt⟩ := cw
  have hK : Back l R p e below s args y 3 8 (PreOf R mc ms Pc) (PostOf Qc mc ms free) := va_backW (hh := hh) (bytes := bytes) (maxL := maxL) (ret := ret) hM hp.1 hrc hrs hfr hlo hws hcw (fun a' U hW => word_at hW (Or.inl (by first | rfl | simp [Cond.onTables, Cond.keeps, Cond.steady])) hini)
  obtain ⟨hx, hb, hml, ho, -⟩ := S
  intro T hT X
  obtain ⟨v, vm₁, ⟨U', l2, c2, s2⟩, hW₁, X', ⟨g', mk, t, L, e1, e2, hq, h1, hL, h2, h3⟩, st⟩ := vx_callSW X hx (hh := hh) (bytes := bytes) (maxL := maxL) (ret := ret) ho hl hstt hini hcode hy hK hg (hsize.trans hml.symm) (argsL := As) (rest := rest) (fun sig h => hn.trans (hlen sig h)) hstack hW (by rw [hb]; exact hdg)
    (fun vm₁ hW₁ => ⟨hf.1, hf.2, hp.2 (T.setVm vm₁) hT hW₁⟩)
  dsimp only [Pt.U, Pt.locs, Pt.cells, Pt.slots] at X' e1 e2 h1 h2 h3 st
  subst h1; subst h2; subst h3
  exact ⟨v, (T.setVm vm₁).calling g' mk As.toArray, t, U', L, hT, X', hL, e1, e2, hq, st⟩
/-- not caught here, past rows that name other classes: it goes on to the caller -/
theorem vx_outP {p : Program} {l : Launch} {e : Env} {R : Room} {s : State} {m : MethodId} {args : Array Value} {below : List Frame} {meth : Method} {c : Code} {H : Heap} {locs : List Loc} {cells slots : Nat} {free : Addr → Prop} {ls : Array Slot} {rest : List Value} {Qc : Array Value → State → Outcome → State → Prop} {XC : String → State → State → Prop}
    {pc : Nat} {own E : String} {ce : Cell} {q : Addr} {mc ms : Nat} (hown : s.vm.findClass own = some m.cls) (hlocks : meth.locks = false)
    (hpass : ∀ z ∈ c.exceptionTable.toList, covers z pc = false ∨ (z.catchType ≠ 0 ∧ ∃ nm : String, (Cond.classLink own z.catchType nm).before args s = true ∧ va_Nc E nm s)) (hcell : H[q]? = some ce) (hv : ce.vm = .none) (hcl : s.vm.findClass E = some ce.cls)
    (hx : ∀ t : State, t.heap = H → s.vm.Alike t.vm → XC E s t) (hf : ∀ z ∈ locs, free z.base) (hc : cells ≤ mc) (hs : slots ≤ ms) :
    vx_W p l e R s m args below meth c H locs cells slots (vx_MQ below Qc XC args s mc ms free) (F0 m pc ls rest) q := by
  intro T hT X
  have hpl : e.platform.magicAccessors = ({} : Platform).magicAccessors := by rw [X.admits.platform]
  obtain ⟨vm', hW', X', st⟩ := X.outThrough hlocks q (g := F0 m pc ls rest) rfl rfl rfl (cell := ce) (by rw [hT]; exact hcell) (by rw [hv]; rfl)
    (by obtain ⟨k9, h9, -⟩ := Vm.findClass_spec hcl; exact ⟨k9, h9⟩) (fun z hz => by
      rcases hpass z hz with h | ⟨hz0, nm, hl1, hn1⟩
      · exact Or.inl h
      · obtain ⟨c6, hc6, hcl6⟩ := Cond.classLink_spec hown hl1 e.platform hpl
        obtain ⟨a8, b8, h1, h2, h3⟩ := hn1
        cases Option.some.inj (h1.symm.trans hcl)
        cases Option.some.inj (h2.symm.trans hc6)
        exact Or.inr ⟨hz0, _, hcl6, h3⟩)
  obtain ⟨g₀, hfr⟩ := X'.frames_eq
  have hcell9 : ((T.setVm vm').setFrames (.throwing q :: below)).heap[q]? = some ce := by
    show T.heap[q]? = some ce
    rw [hT]; exact hcell
  have hend : Ended ((T.setVm vm').setFrames (.throwing q :: below)) below (.threw q) := State.frames_setFrames _ (State.cur_lt_of_frames hfr)
  refine ⟨(T.setVm vm').setFrames (.throwing q :: below), ?_, .threw q, X'.here.running, hend, Or.inr ⟨q, rfl, E, ce, locs, hx _ hT (X'.ends _).1.alike, hcell9, hv, hcl, (X'.ends _).1, (X'.ends _).2.mono hc hs, hf⟩⟩
  rw [X.pushThrowing_eq]
  exact st
/-- a thing of a world lies in the heap -/
theorem vx_lt {D : va_G} {cl : List vw_C} {ws : va_W} {H1 : Heap} (h : va_P D cl ws H1) {k : Nat} {q : Nat × va_E} (hk : ws[k]? = some q) : q.1 < H1.size := (h k q hk).lt
end VXS
/-! ===== END ===== -/
/-! ===== BEGIN methods with a table of their own: called by a name, returning or throwing ===== -/
section VXH
/-! vx_backW, vx_callVX, vx_callSX, vx_callVW, vx_runVW, vx_runVX, vx_runSX, vx_ofWH follow the same proofs as their sisters above (Free/Laws.lean, Shelf42/LK1.lean); vx_outP calls Shelf42/NT130.lean (outThrough). -/
section
variable {l : Launch} {R : Room} {p : Program} {e : Env} {below : List Frame} {s : State} {sargs : Array Value} {y : MethodName} {len W9 : Nat}
theorem vx_backW {ws : List Cond} {rm : Room} {Pc : Array Value → State → Prop} {Qc : Array Value → State → Outcome → State → Prop} {XC : String → State → State → Prop} {mc ms : Nat} {free : Addr → Prop} {bytes : ByteArray} {maxL : Nat} {ret : Option FieldType} {hh : List (Nat × Nat × Nat × Nat)}
    (hM : vx_Met l y ws rm Pc Qc XC mc ms free) (hblind : FrameBlind Pc) (hrc : rm.cells = mc) (hrs : rm.slots = ms)
    (hframes : rm.frames + 1 ≤ R.frames) (hlocals : W9 + (maxL + 11) + rm.locals ≤ R.locals)
    (hws : ∀ w ∈ ws, ∀ a' U, s.WarmedH U.vm → w.before a' U = true) (hcode : Cond.codeWith y bytes maxL ret hh ∈ ws) (hinit : ∀ a' U, s.WarmedH U.vm → (Cond.initialized y.cls).before a' U = true) :
    vx_Back l R p e below s sargs y len W9 (PreOf R mc ms Pc) (PostOf Qc mc ms free) (vx_Post XC mc ms free) := by
  intro m meth c A g ig mk a X hg hsize hdg hW hn hp
  have h1 : (headSpec ws rm).pre.before a A.U = true := atoms_intro fun w hw => hws w hw _ _ X.warmed
  have h2 : (Cond.codeWith y bytes maxL ret hh).before a A.U = true := hws _ hcode _ _ X.warmed
  have h3 : (Cond.initialized y.cls).before a A.U = true := hinit _ _ X.warmed
  have h4 : A.cells + (headSpec ws rm).room.cells ≤ R.cells := by rw [show (headSpec ws rm).room.cells = mc from hrc]; exact hp.1
  have h5 : A.slots + (headSpec ws rm).room.slots ≤ R.slots := by rw [show (headSpec ws rm).room.slots = ms from hrs]; exact hp.2.1
  have hPc : Pc a (A.U.calling g mk a) := hblind _ _ _ _ hp.2.2
  obtain ⟨U, Ls, c0, s0⟩ := A
  dsimp only [Pt.U, Pt.locs, Pt.cells, Pt.slots] at h1 h2 h3 h4 h5 X hn hPc ⊢
  obtain ⟨m9, methY, cY, hn9, hmY, hcY, -, hlY, -⟩ := Cond.codeWith_spec h2
  cases Option.some.inj (hn9.symm.trans hn)
  obtain ⟨kY, hkY, -⟩ := className_of_methodNamed hn
  have hinitY : kY.init = .initialized := Cond.initialized_spec (findClass_of_methodNamed hn) hkY h3
  have h : At U g.method c below := by rw [hg]; exact X.here
  have hlocals9 : W9 + (maxL + 11) + (headSpec ws rm).room.locals ≤ R.locals := hlocals
  have happ : (headSpec ws rm).appliesLoose y e.platform (U.calling g mk a) = true :=
    Spec.appliesLoose_calling (g := g) h hdg hn hkY hinitY
      (X.room_calling (g := g) (R' := (headSpec ws rm).room) hsize hmY hcY hframes (by rw [hlY]; omega) h4 h5) h1
  obtain ⟨mid, hmid⟩ := h.above
  have hfr : (U.setTop g).frames = (.java g :: mid) ++ below := by rw [State.frames_setTop' g h.top, hmid]; rfl
  obtain ⟨o, s₂, hsteps, -, hend, hq⟩ := Steps.callFree hM p X.admits X.cas X.clock (acts := []) hfr happ hPc trivial
  have hq' : vx_Q Qc XC mc ms free a (U.calling g mk a) o s₂ := hq
  rw [State.frames_setTop' g h.top] at hend
  obtain ⟨g₀, hg0⟩ := Option.isSome_iff_exists.mp h.top
  obtain ⟨r, hr⟩ := State.topJava?_eq_some.mp hg0
  have hr' : (({ U with heap := s₂.heap, slotsUsed := s₂.slotsUsed } : State).setVm s₂.vm).frames = .java g₀ :: r := hr
  rcases hq' with ⟨hqc, L, hfe, hL⟩ | ⟨q, rfl, E, ce, L, hx, hce, hcv, hcl, hW₂, hsm, hL⟩
  · obtain ⟨⟨v, rfl⟩, hW₂, e2, q2, q3, q4, q5, q6⟩ := id hfe
    have e3 : s₂ = ({ (U.calling g mk a).setFrames s₂.frames with heap := s₂.heap, slotsUsed := s₂.slotsUsed } : State).setVm s₂.vm := by
      have : s₂ = ({ s₂ with vm := (U.calling g mk a).vm } : State).setVm s₂.vm := rfl
      rw [e2] at this
      exact this
    obtain ⟨c₂, i₂, len₂, hc₂, hd₂, hf₂⟩ := hend
    have hW' : U.WarmedH s₂.vm := hW₂
    have hcc : c₂ = c := by
      have h1 : s₂.code? g.method = U.code? g.method := by
        rw [State.code?_eq, State.code?_eq, hW'.alike.method?]
      exact Option.some.inj (hc₂.symm.trans (h1.trans h.code))
    subst hcc
    have hlen : len₂ = len := by rw [hdg] at hd₂; cases hd₂; rfl
    subst hlen
    have hs₂ : s₂ = (({ U with heap := s₂.heap, slotsUsed := s₂.slotsUsed } : State).setVm s₂.vm).setTop { g with pc := g.pc + len₂, stack := v.toList ++ g.stack } := by
      refine e3.trans ?_
      rw [hf₂, State.calling_eq h.top, State.setFrames_setFrames, State.setTop_of_frames _ hr', hr]
      rfl
    have hsame : U.sameButNew ({ U with heap := s₂.heap, slotsUsed := s₂.slotsUsed } : State) L mc ms := by
      refine ⟨?_, q2, q3, q4, q5, q6⟩
      obtain ⟨t, ht, -⟩ := State.frames_cons hr
      show ({ U with heap := s₂.heap, slotsUsed := s₂.slotsUsed } : State) = { U.setFrames U.frames with heap := s₂.heap, slotsUsed := s₂.slotsUsed }
      rw [State.setFrames_self ht]
    subst hg
    refine Or.inl ⟨v, ⟨(({ U with heap := s₂.heap, slotsUsed := s₂.slotsUsed } : State).setVm s₂.vm), Ls ++ L, c0 + mc, s0 + ms⟩,
      ⟨X.admits, X.cas, X.clock, X.frames, X.room, X.hears, X.method, X.code, (X.here.setHeapUsed s₂.heap s₂.slotsUsed).setVm hW'.alike, X.tail, State.WarmedH.trans X.warmed hW', X.limits, X.bytes, X.same.trans (hsame.setVm s.vm)⟩,
      ⟨g, mk, s₂, L, rfl, rfl, hqc, rfl, hL, rfl, rfl⟩, ?_⟩
    show Steps p.tables e below _ ((({ U with heap := s₂.heap, slotsUsed := s₂.slotsUsed } : State).setVm s₂.vm).setTop { g with pc := g.pc + len₂, stack := v.toList ++ g.stack })
    rw [← hs₂]
    exact hsteps
  · obtain ⟨e2, q2, q3, q4, q5, q6⟩ := id hsm
    have e3 : s₂ = ({ (U.calling g mk a).setFrames s₂.frames with heap := s₂.heap, slotsUsed := s₂.slotsUsed } : State).setVm s₂.vm := by
      have : s₂ = ({ s₂ with vm := (U.calling g mk a).vm } : State).setVm s₂.vm := rfl
      rw [e2] at this
      exact this
    have hf₂ : s₂.frames = .throwing q :: .java g :: U.frames.tail := hend
    have hW' : U.WarmedH s₂.vm := hW₂
    have hs₂ : s₂ = ((({ U with heap := s₂.heap, slotsUsed := s₂.slotsUsed } : State).setVm s₂.vm).setTop g).pushFrame (.throwing q) := by
      refine e3.trans ?_
      rw [hf₂, State.calling_eq h.top, State.setFrames_setFrames, State.pushFrame, State.frames_setTop _ hr', State.setTop_of_frames _ hr', State.setFrames_setFrames, hr]
      rfl
    have hsame : U.sameButNew ({ U with heap := s₂.heap, slotsUsed := s₂.slotsUsed } : State) L mc ms := by
      refine ⟨?_, q2, q3, q4, q5, q6⟩
      obtain ⟨t, ht, -⟩ := State.frames_cons hr
      show ({ U with heap := s₂.heap, slotsUsed := s₂.slotsUsed } : State) = { U.setFrames U.frames with heap := s₂.heap, slotsUsed := s₂.slotsUsed }
      rw [State.setFrames_self ht]
    subst hg
    refine Or.inr ⟨q, ⟨(({ U with heap := s₂.heap, slotsUsed := s₂.slotsUsed } : State).setVm s₂.vm), Ls ++ L, c0 + mc, s0 + ms⟩,
      ⟨X.admits, X.cas, X.clock, X.frames, X.room, X.hears, X.method, X.code, (X.here.setHeapUsed s₂.heap s₂.slotsUsed).setVm hW'.alike, X.tail, State.WarmedH.trans X.warmed hW', X.limits, X.bytes, X.same.trans (hsame.setVm s.vm)⟩,
      ⟨g, mk, s₂, L, E, ce, rfl, rfl, hx, hce, hcv, hcl, rfl, hL, rfl, rfl⟩, ?_⟩
    show Steps p.tables e below _ (((({ U with heap := s₂.heap, slotsUsed := s₂.slotsUsed } : State).setVm s₂.vm).setTop g).pushFrame (.throwing q))
    rw [← hs₂]
    exact hsteps
end
variable {p : Program} {l : Launch} {e : Env} {R : Room} {s : State} {m : MethodId} {args : Array Value} {below : List Frame} {meth : Method} {c : Code} {T : State} {H : Heap} {locs : List Loc} {cells slots : Nat}
theorem vx_callVX (X : Stand p l e R s m args below meth c T locs cells slots) (hexec : p.tables.exec = Jvm.exec) {own C : String} {index : Nat} {y : MethodName} {bytes : ByteArray} {maxL : Nat} {ret : Option FieldType} {hh : List (Nat × Nat × Nat × Nat)}
    (hown : s.vm.findClass own = some m.cls) (hlink : (Cond.methodLink own index y).before args s = true) (hinst : (Cond.instanceMethod y).before args s = true) (hsel : (Cond.selects C y y).before args s = true)
    (hcode : (Cond.codeWith y bytes maxL ret hh).before args s = true) (hy : y.cls ≠ "java/lang/invoke/MethodHandle" ∧ y.cls ≠ "java/lang/invoke/VarHandle")
    {W9 : Nat} {Pre : Pt → Array Value → Prop} {Post : Pt → Array Value → Option Value → Pt → Prop} {PostX : Pt → Array Value → Addr → Pt → Prop} (hK : vx_Back l R p e below s args y 3 W9 Pre Post PostX)
    {b : Addr} {cellB : Cell} (hcell : T.heap[b]? = some cellB) (hobj : cellB.vm.isStatics = false) (hcls : s.vm.findClass C = some cellB.cls)
    {g : JFrame} (hg : g.method = m) (hsize : g.locals.size = c.maxLocals) {argsL rest : List Value} (hlen : ∀ sig, parseMethodDescriptor y.desc = some sig → argsL.length = sig.parameters.length)
    (hstack : g.stack = argsL.reverse ++ .ref b :: rest) (hW : 2 * g.monitorRoom + (rest.map fun v => v.category).sum ≤ W9) (hdg : decode c.code g.pc = .ok (.invokevirtual index, 3))
    (hpre : ∀ vm₁, s.WarmedH vm₁ → Pre ⟨T.setVm vm₁, locs, cells, slots⟩ (Value.ref b :: argsL).toArray) :
    (∃ (v : Option Value) (vm₁ : Vm) (B : Pt), s.WarmedH vm₁ ∧ Stand p l e R s m args below meth c B.U B.locs B.cells B.slots ∧ Post ⟨T.setVm vm₁, locs, cells, slots⟩ (Value.ref b :: argsL).toArray v B ∧
      ∀ target, Steps p.tables e below (B.U.setTop { g with pc := g.pc + 3, stack := v.toList ++ rest }) target → Steps p.tables e below (T.setTop g) target) ∨
    (∃ (q : Addr) (vm₁ : Vm) (B : Pt), s.WarmedH vm₁ ∧ Stand p l e R s m args below meth c B.U B.locs B.cells B.slots ∧ PostX ⟨T.setVm vm₁, locs, cells, slots⟩ (Value.ref b :: argsL).toArray q B ∧
      Steps p.tables e below (T.setTop g) ((B.U.setTop { g with stack := rest }).pushFrame (.throwing q))) := by
  obtain ⟨mk, methM, hnamed, hmethM, hstM, habM⟩ := Cond.instanceMethod_spec hinst
  obtain ⟨m8, methM', cM, hn8, hmethM', -, -, -, -, -, -, hsigM⟩ := Cond.codeWith_spec hcode
  cases Option.some.inj (hn8.symm.trans hnamed)
  cases hmethM.symm.trans hmethM'
  obtain ⟨c2, r2, m2, q1, q2, q3, q4, kP, hkP, hkPi⟩ := Cond.selects_spec hsel
  cases hcls.symm.trans q1
  cases (State.methodFound?_of_named hnamed hy).symm.trans q2
  cases hnamed.symm.trans q3
  have hselP : selectMethod e.platform s.vm cellB.cls mk = .method mk := by rw [Launch.admits_selectMethod X.admits]; exact q4
  obtain ⟨vm₁, X₁, hstep₁⟩ := X.invokevirtual hexec hown hlink hnamed hmethM hstM hkP hkPi hy (a := b) (cell := cellB) hcell
    (fun z h => by rw [h] at hobj; cases hobj) hselP hmethM habM hkP hkPi (g := g) hg (argsL := argsL) (rest := rest) (hlen _ hsigM) hstack hdg
  rcases hK m meth c ⟨T.setVm vm₁, locs, cells, slots⟩ { g with stack := rest } (.invokevirtual index) mk (Value.ref b :: argsL).toArray X₁ hg hsize hdg hW (X₁.named hnamed) (hpre vm₁ X₁.warmed) with ⟨v, B, X', hpost, hsteps⟩ | ⟨q, B, X', hpost, hsteps⟩
  · exact Or.inl ⟨v, vm₁, B, X₁.warmed, X', hpost, fun target h => hstep₁ _ fun acts => by rw [doInvoke_state]; exact hsteps.trans h⟩
  · exact Or.inr ⟨q, vm₁, B, X₁.warmed, X', hpost, hstep₁ _ fun acts => by rw [doInvoke_state]; exact hsteps⟩
theorem vx_callSX (X : Stand p l e R s m args below meth c T locs cells slots) (hexec : p.tables.exec = Jvm.exec) {own : String} {index : Nat} {y : MethodName} {bytes : ByteArray} {maxL : Nat} {ret : Option FieldType} {hh : List (Nat × Nat × Nat × Nat)}
    (hown : s.vm.findClass own = some m.cls) (hlink : (Cond.methodLink own index y).before args s = true) (hstat : (Cond.static y).before args s = true) (hinit : (Cond.initialized y.cls).before args s = true)
    (hcode : (Cond.codeWith y bytes maxL ret hh).before args s = true) (hy : y.cls ≠ "java/lang/invoke/MethodHandle" ∧ y.cls ≠ "java/lang/invoke/VarHandle")
    {W9 : Nat} {Pre : Pt → Array Value → Prop} {Post : Pt → Array Value → Option Value → Pt → Prop} {PostX : Pt → Array Value → Addr → Pt → Prop} (hK : vx_Back l R p e below s args y 3 W9 Pre Post PostX)
    {g : JFrame} (hg : g.method = m) (hsize : g.locals.size = c.maxLocals) {argsL rest : List Value} (hlen : ∀ sig, parseMethodDescriptor y.desc = some sig → argsL.length = sig.parameters.length)
    (hstack : g.stack = argsL.reverse ++ rest) (hW : 2 * g.monitorRoom + (rest.map fun v => v.category).sum ≤ W9) (hdg : decode c.code g.pc = .ok (.invokestatic index, 3))
    (hpre : ∀ vm₁, s.WarmedH vm₁ → Pre ⟨T.setVm vm₁, locs, cells, slots⟩ argsL.toArray) :
    (∃ (v : Option Value) (vm₁ : Vm) (B : Pt), s.WarmedH vm₁ ∧ Stand p l e R s m args below meth c B.U B.locs B.cells B.slots ∧ Post ⟨T.setVm vm₁, locs, cells, slots⟩ argsL.toArray v B ∧
      ∀ target, Steps p.tables e below (B.U.setTop { g with pc := g.pc + 3, stack := v.toList ++ rest }) target → Steps p.tables e below (T.setTop g) target) ∨
    (∃ (q : Addr) (vm₁ : Vm) (B : Pt), s.WarmedH vm₁ ∧ Stand p l e R s m args below meth c B.U B.locs B.cells B.slots ∧ PostX ⟨T.setVm vm₁, locs, cells, slots⟩ argsL.toArray q B ∧
      Steps p.tables e below (T.setTop g) ((B.U.setTop { g with stack := rest }).pushFrame (.throwing q))) := by
  obtain ⟨mk, methM, cM, hnamed, hmethM, -, -, -, -, -, -, hsigM⟩ := Cond.codeWith_spec hcode
  have hstatic : methM.isStatic = true := Cond.static_spec hnamed hmethM hstat
  obtain ⟨kP, hkP, -⟩ := className_of_methodNamed hnamed
  have hinitP : kP.init = .initialized := Cond.initialized_spec (findClass_of_methodNamed hnamed) hkP hinit
  obtain ⟨vm₁, X₁, hstep₁⟩ := X.invokestatic hexec hown hlink hnamed hmethM hstatic hkP hinitP hy (g := g) hg (argsL := argsL) (rest := rest) (hlen _ hsigM) hstack hdg
  rcases hK m meth c ⟨T.setVm vm₁, locs, cells, slots⟩ { g with stack := rest } (.invokestatic index) mk argsL.toArray X₁ hg hsize hdg hW (X₁.named hnamed) (hpre vm₁ X₁.warmed) with ⟨v, B, X', hpost, hsteps⟩ | ⟨q, B, X', hpost, hsteps⟩
  · exact Or.inl ⟨v, vm₁, B, X₁.warmed, X', hpost, fun target h => hstep₁ _ fun acts => by rw [doInvoke_state]; exact hsteps.trans h⟩
  · exact Or.inr ⟨q, vm₁, B, X₁.warmed, X', hpost, hstep₁ _ fun acts => by rw [doInvoke_state]; exact hsteps⟩
theorem vx_callVW (X : Stand p l e R s m args below meth c T locs cells slots) (hexec : p.tables.exec = Jvm.exec) {own C : String} {index : Nat} {y : MethodName} {bytes : ByteArray} {maxL : Nat} {ret : Option FieldType} {hh : List (Nat × Nat × Nat × Nat)}
    (hown : s.vm.findClass own = some m.cls) (hlink : (Cond.methodLink own index y).before args s = true) (hinst : (Cond.instanceMethod y).before args s = true) (hsel : (Cond.selects C y y).before args s = true)
    (hcode : (Cond.codeWith y bytes maxL ret hh).before args s = true) (hy : y.cls ≠ "java/lang/invoke/MethodHandle" ∧ y.cls ≠ "java/lang/invoke/VarHandle")
    {W9 : Nat} {Pre : Pt → Array Value → Prop} {Post : Pt → Array Value → Option Value → Pt → Prop} (hK : Back l R p e below s args y 3 W9 Pre Post)
    {b : Addr} {cellB : Cell} (hcell : T.heap[b]? = some cellB) (hobj : cellB.vm.isStatics = false) (hcls : s.vm.findClass C = some cellB.cls)
    {g : JFrame} (hg : g.method = m) (hsize : g.locals.size = c.maxLocals) {argsL rest : List Value} (hlen : ∀ sig, parseMethodDescriptor y.desc = some sig → argsL.length = sig.parameters.length)
    (hstack : g.stack = argsL.reverse ++ .ref b :: rest) (hW : 2 * g.monitorRoom + (rest.map fun v => v.category).sum ≤ W9) (hdg : decode c.code g.pc = .ok (.invokevirtual index, 3))
    (hpre : ∀ vm₁, s.WarmedH vm₁ → Pre ⟨T.setVm vm₁, locs, cells, slots⟩ (Value.ref b :: argsL).toArray) :
    ∃ (v : Option Value) (vm₁ : Vm) (B : Pt), s.WarmedH vm₁ ∧ Stand p l e R s m args below meth c B.U B.locs B.cells B.slots ∧ Post ⟨T.setVm vm₁, locs, cells, slots⟩ (Value.ref b :: argsL).toArray v B ∧
      ∀ target, Steps p.tables e below (B.U.setTop { g with pc := g.pc + 3, stack := v.toList ++ rest }) target → Steps p.tables e below (T.setTop g) target := by
  obtain ⟨mk, methM, hnamed, hmethM, hstM, habM⟩ := Cond.instanceMethod_spec hinst
  obtain ⟨m8, methM', cM, hn8, hmethM', -, -, -, -, -, -, hsigM⟩ := Cond.codeWith_spec hcode
  cases Option.some.inj (hn8.symm.trans hnamed)
  cases hmethM.symm.trans hmethM'
  obtain ⟨c2, r2, m2, q1, q2, q3, q4, kP, hkP, hkPi⟩ := Cond.selects_spec hsel
  cases hcls.symm.trans q1
  cases (State.methodFound?_of_named hnamed hy).symm.trans q2
  cases hnamed.symm.trans q3
  have hselP : selectMethod e.platform s.vm cellB.cls mk = .method mk := by rw [Launch.admits_selectMethod X.admits]; exact q4
  obtain ⟨vm₁, X₁, hstep₁⟩ := X.invokevirtual hexec hown hlink hnamed hmethM hstM hkP hkPi hy (a := b) (cell := cellB) hcell
    (fun z h => by rw [h] at hobj; cases hobj) hselP hmethM habM hkP hkPi (g := g) hg (argsL := argsL) (rest := rest) (hlen _ hsigM) hstack hdg
  obtain ⟨v, B, X', hpost, hsteps⟩ := hK m meth c ⟨T.setVm vm₁, locs, cells, slots⟩ { g with stack := rest } (.invokevirtual index) mk (Value.ref b :: argsL).toArray X₁ hg hsize hdg hW (X₁.named hnamed) (hpre vm₁ X₁.warmed)
  exact ⟨v, vm₁, B, X₁.warmed, X', hpost, fun target h => hstep₁ _ fun acts => by rw [doInvoke_state]; exact hsteps.trans h⟩
abbrev vx_CVW (R : Room) (s : State) (args : Array Value) (own C : String) (index : Nat) (y : MethodName) (bytes : ByteArray) (maxL : Nat) (ret : Option FieldType) (hh : List (Nat × Nat × Nat × Nat)) (ws : List Cond) (rm : Room) (mc ms n : Nat) : Prop :=
  (rm.cells = mc ∧ rm.slots = ms ∧ rm.frames + 1 ≤ R.frames ∧ 8 + (maxL + 11) + rm.locals ≤ R.locals ∧ (∀ w ∈ ws, ∀ (a' : Array Value) (U : State), s.WarmedH U.vm → w.before a' U = true) ∧ Cond.codeWith y bytes maxL ret hh ∈ ws) ∧
  (Cond.codeWith y bytes maxL ret hh).before args s = true ∧ (Cond.initialized y.cls).before args s = true ∧ (y.cls ≠ "java/lang/invoke/MethodHandle" ∧ y.cls ≠ "java/lang/invoke/VarHandle") ∧
  (∀ sig, parseMethodDescriptor y.desc = some sig → n = sig.parameters.length) ∧ (Cond.methodLink own index y).before args s = true ∧ (Cond.instanceMethod y).before args s = true ∧ (Cond.selects C y y).before args s = true
theorem vx_cwVW {own C : String} {index maxL mc ms : Nat} {y : MethodName} {bytes : ByteArray} {ret : Option FieldType} {hh : List (Nat × Nat × Nat × Nat)} {Ts ws ws' : List Cond} {rm : Room} (n : Nat) (ht : ∀ w ∈ Ts, w.before args s = true) (hT : GoodIn Ts (wsV own index C y ws)) (hw : ws = Cond.codeWith y bytes maxL ret hh :: ws') (hrc : rm.cells = mc) (hrs : rm.slots = ms)
    (hd : y.cls = C ∧ y.cls ≠ "java/lang/invoke/MethodHandle" ∧ y.cls ≠ "java/lang/invoke/VarHandle" ∧ (parseMethodDescriptor y.desc).map (fun d => d.parameters.length) = some n) (hR : rm.frames + 1 ≤ R.frames ∧ 8 + (maxL + 11) + rm.locals ≤ R.locals) :
    vx_CVW R s args own C index y bytes maxL ret hh ws rm mc ms n := by
  obtain ⟨hC, hd⟩ := hd
  subst hC
  have ok : ∀ w ∈ wsV own index y.cls y ws, w.before args s = true := fun w h => ht w (hT w h).1
  have hG : GoodIn Ts ws := fun w h => hT w (by unfold wsV; exact List.mem_append_right _ h)
  have hc : Cond.codeWith y bytes maxL ret hh ∈ ws := by rw [hw]; exact List.mem_cons_self
  refine ⟨⟨hrc, hrs, hR.1, hR.2, pay_in ht hG, hc⟩, ht _ (hG _ hc).1, ok _ (by simp [wsV]), ⟨hd.1, hd.2.1⟩, fun sig h => ?_, ok _ (by simp [wsV]), ok _ (by simp [wsV]), ok _ (by simp [wsV])⟩
  have h2 := hd.2.2
  rw [h] at h2
  exact (Option.some.inj h2).symm
theorem vx_runVW {y : MethodName} {bytes cc : ByteArray} {maxL nL mc ms n index : Nat} {ret : Option FieldType} {hh : List (Nat × Nat × Nat × Nat)} {ws : List Cond} {rm : Room} {Pc : Array Value → State → Prop} {Qc : Array Value → State → Outcome → State → Prop} {free : Addr → Prop} {Ts : List Cond} {own C : String} {b : Addr} {As rest : List Value} {g : JFrame}
    (S : CallFix p m c cc nL s args Ts own) (hM : Met l y ws rm Pc Qc mc ms free) (cw : vx_CVW R s args own C index y bytes maxL ret hh ws rm mc ms n) (hp : PreV s H C b Pc As)
    (hg : g.method = m) (hn : As.length = n) (hsize : g.locals.size = nL) (hstack : g.stack = As.reverse ++ .ref b :: rest) (hW : 2 * g.monitorRoom + (rest.map fun v => v.category).sum ≤ 8) (hdg : decode cc g.pc = .ok (.invokevirtual index, 3)) (hf : cells + mc ≤ R.cells ∧ slots + ms ≤ R.slots) :
    va_Run p l e R s m args below meth c H locs cells slots mc ms g rest (Qc (Value.ref b :: As).toArray) free := by
  obtain ⟨⟨hrc, hrs, hfr, hlo, hws, hcw⟩, hcode, hini, hy, hlen, hl, hin, hse⟩ := cw
  have hK : Back l R p e below s args y 3 8 (PreOf R mc ms Pc) (PostOf Qc mc ms free) := va_backW (hh := hh) (bytes := bytes) (maxL := maxL) (ret := ret) hM hp.1 hrc hrs hfr hlo hws hcw (fun a' U hW => word_at hW (Or.inl (by first | rfl | simp [Cond.onTables, Cond.keeps, Cond.steady])) hini)
  obtain ⟨hx, hb, hml, ho, -⟩ := S
  obtain ⟨-, ⟨cellB, hcB, hoB, hclB⟩, hPc⟩ := hp
  intro T hT X
  obtain ⟨v, vm₁, ⟨U', l2, c2, s2⟩, hW₁, X', ⟨g', mk, t, L, e1, e2, hq, h1, hL, h2, h3⟩, st⟩ := vx_callVW X hx (C := C) (hh := hh) (bytes := bytes) (maxL := maxL) (ret := ret) ho hl hin hse hcode hy hK (by rw [hT]; exact hcB) hoB hclB hg (hsize.trans hml.symm) (argsL := As) (rest := rest) (fun sig h => hn.trans (hlen sig h)) hstack hW (by rw [hb]; exact hdg)
    (fun vm₁ hW₁ => ⟨hf.1, hf.2, hPc (T.setVm vm₁) hT hW₁⟩)
  dsimp only [Pt.U, Pt.locs, Pt.cells, Pt.slots] at X' e1 e2 h1 h2 h3 st
  subst h1; subst h2; subst h3
  exact ⟨v, (T.setVm vm₁).calling g' mk (Value.ref b :: As).toArray, t, U', L, hT, X', hL, e1, e2, hq, st⟩
section
variable {y : MethodName} {bytes cc : ByteArray} {maxL nL mc ms n index : Nat} {ret : Option FieldType} {ws : List Cond} {rm : Room} {Pc : Array Value → State → Prop} {Qc : Array Value → State → Outcome → State → Prop} {XC : String → State → State → Prop} {free : Addr → Prop} {Ts : List Cond} {own C : String} {b : Addr} {As rest : List Value} {g : JFrame}
theorem vx_runVX {hh : List (Nat × Nat × Nat × Nat)} (S : CallFix p m c cc nL s args Ts own) (hM : vx_Met l y ws rm Pc Qc XC mc ms free) (cw : vx_CVW R s args own C index y bytes maxL ret hh ws rm mc ms n) (hp : PreV s H C b Pc As)
    (hg : g.method = m) (hn : As.length = n) (hsize : g.locals.size = nL) (hstack : g.stack = As.reverse ++ .ref b :: rest) (hW : 2 * g.monitorRoom + (rest.map fun v => v.category).sum ≤ 8) (hdg : decode cc g.pc = .ok (.invokevirtual index, 3)) (hf : cells + mc ≤ R.cells ∧ slots + ms ≤ R.slots) :
    vx_Run p l e R s m args below meth c H locs cells slots mc ms g rest (Qc (Value.ref b :: As).toArray) XC free := by
  obtain ⟨⟨hrc, hrs, hfr, hlo, hws, hcw⟩, hcode, hini, hy, hlen, hl, hin, hse⟩ := cw
  have hK : vx_Back l R p e below s args y 3 8 (PreOf R mc ms Pc) (PostOf Qc mc ms free) (vx_Post XC mc ms free) := vx_backW (hh := hh) (bytes := bytes) (maxL := maxL) (ret := ret) hM hp.1 hrc hrs hfr hlo hws hcw (fun a' U hW => word_at hW (Or.inl (by first | rfl | simp [Cond.onTables, Cond.keeps, Cond.steady])) hini)
  obtain ⟨hx, hb, hml, ho, -⟩ := S
  obtain ⟨-, ⟨cellB, hcB, hoB, hclB⟩, hPc⟩ := hp
  intro T hT X
  rcases vx_callVX X hx (C := C) (hh := hh) (bytes := bytes) (maxL := maxL) (ret := ret) ho hl hin hse hcode hy hK (by rw [hT]; exact hcB) hoB hclB hg (hsize.trans hml.symm) (argsL := As) (rest := rest) (fun sig h => hn.trans (hlen sig h)) hstack hW (by rw [hb]; exact hdg)
    (fun vm₁ hW₁ => ⟨hf.1, hf.2, hPc (T.setVm vm₁) hT hW₁⟩) with ⟨v, vm₁, ⟨U', l2, c2, s2⟩, hW₁, X', ⟨g', mk, t, L, e1, e2, hq, h1, hL, h2, h3⟩, st⟩ | ⟨q, vm₁, ⟨U', l2, c2, s2⟩, hW₁, X', ⟨g', mk, t, L, E, ce, e1, e2, hq, hce, hcv, hcl, h1, hL, h2, h3⟩, st⟩
  · dsimp only [Pt.U, Pt.locs, Pt.cells, Pt.slots] at X' e1 e2 h1 h2 h3 st
    subst h1; subst h2; subst h3
    exact Or.inl ⟨v, (T.setVm vm₁).calling g' mk (Value.ref b :: As).toArray, t, U', L, hT, X', hL, e1, e2, hq, st⟩
  · dsimp only [Pt.U, Pt.locs, Pt.cells, Pt.slots] at X' e1 e2 h1 h2 h3 st hcl
    subst h1; subst h2; subst h3
    exact Or.inr ⟨q, (T.setVm vm₁).calling g' mk (Value.ref b :: As).toArray, t, U', L, E, ce, hT, X', hL, e1, e2, hq, hce, hcv, vx_cls hW₁ hcl, st⟩
theorem vx_runSX {hh : List (Nat × Nat × Nat × Nat)} (S : CallFix p m c cc nL s args Ts own) (hM : vx_Met l y ws rm Pc Qc XC mc ms free) (cw : vx_CSW R s args own index y bytes maxL ret hh ws rm mc ms n) (hp : PreS s H Pc As)
    (hg : g.method = m) (hn : As.length = n) (hsize : g.locals.size = nL) (hstack : g.stack = As.reverse ++ rest) (hW : 2 * g.monitorRoom + (rest.map fun v => v.category).sum ≤ 8) (hdg : decode cc g.pc = .ok (.invokestatic index, 3)) (hf : cells + mc ≤ R.cells ∧ slots + ms ≤ R.slots) :
    vx_Run p l e R s m args below meth c H locs cells slots mc ms g rest (Qc As.toArray) XC free := by
  obtain ⟨⟨hrc, hrs, hfr, hlo, hws, hcw⟩, hcode, hini, hy, hlen, hl, hstt⟩ := cw
  have hK : vx_Back l R p e below s args y 3 8 (PreOf R mc ms Pc) (PostOf Qc mc ms free) (vx_Post XC mc ms free) := vx_backW (hh := hh) (bytes := bytes) (maxL := maxL) (ret := ret) hM hp.1 hrc hrs hfr hlo hws hcw (fun a' U hW => word_at hW (Or.inl (by first | rfl | simp [Cond.onTables, Cond.keeps, Cond.steady])) hini)
  obtain ⟨hx, hb, hml, ho, -⟩ := S
  intro T hT X
  rcases vx_callSX X hx (hh := hh) (bytes := bytes) (maxL := maxL) (ret := ret) ho hl hstt hini hcode hy hK hg (hsize.trans hml.symm) (argsL := As) (rest := rest) (fun sig h => hn.trans (hlen sig h)) hstack hW (by rw [hb]; exact hdg)
    (fun vm₁ hW₁ => ⟨hf.1, hf.2, hp.2 (T.setVm vm₁) hT hW₁⟩) with ⟨v, vm₁, ⟨U', l2, c2, s2⟩, hW₁, X', ⟨g', mk, t, L, e1, e2, hq, h1, hL, h2, h3⟩, st⟩ | ⟨q, vm₁, ⟨U', l2, c2, s2⟩, hW₁, X', ⟨g', mk, t, L, E, ce, e1, e2, hq, hce, hcv, hcl, h1, hL, h2, h3⟩, st⟩
  · dsimp only [Pt.U, Pt.locs, Pt.cells, Pt.slots] at X' e1 e2 h1 h2 h3 st
    subst h1; subst h2; subst h3
    exact Or.inl ⟨v, (T.setVm vm₁).calling g' mk As.toArray, t, U', L, hT, X', hL, e1, e2, hq, st⟩
  · dsimp only [Pt.U, Pt.locs, Pt.cells, Pt.slots] at X' e1 e2 h1 h2 h3 st hcl
    subst h1; subst h2; subst h3
    exact Or.inr ⟨q, (T.setVm vm₁).calling g' mk As.toArray, t, U', L, E, ce, hT, X', hL, e1, e2, hq, hce, hcv, vx_cls hW₁ hcl, st⟩
end
end VXH
theorem vx_ofWH {l : Launch} {y : MethodName} {ws ws' : List Cond} {rm : Room} {Pc : Array Value → State → Prop} {Qc : Array Value → State → Outcome → State → Prop} {XC : String → State → State → Prop} {mc ms : Nat} {free : Addr → Prop} {cc : ByteArray} {maxL : Nat} {ret : Option FieldType} {hh : List (Nat × Nat × Nat × Nat)}
    (hy : plainName y.cls = true) (hw : ws = Cond.codeWith y cc maxL ret hh :: ws')
    (body : ∀ p e s m args below meth c s₁, BodyLoose p l y (headSpec ws rm) cc maxL ret e s m args below meth c s₁ → c.maxLocals = maxL → Pc args s →
      W p l e (headSpec ws rm).room s m args below meth c s.heap [] 0 0 (vx_MQ below Qc XC args s mc ms free) (entryFrame m args maxL)) : vx_Met l y ws rm Pc Qc XC mc ms free := by
  refine MetFree.of_bodyS (code := cc) (maxLocals := maxL) (ret := ret) hy ?_ ?_
  · intro args s m h hn
    obtain ⟨m9, meth, c, hn9, h1, h2, h3, h4, -, h5, h6, -⟩ := Cond.codeWith_spec (atoms_spec (ws := ws) h _ (by rw [hw]; exact List.mem_cons_self))
    cases hn.symm.trans hn9
    exact ⟨meth, c, h1, h2, h3, h4, h5, h6⟩
  · intro p e s m args below meth c s₁ B hml hP _
    have hh0 : s₁.heap = s.heap := by rw [B.state]; rfl
    obtain ⟨t, a1, o, b1, b2, b3⟩ := body p e s m args below meth c s₁ B hml hP s₁ hh0 (Stand.of_body B)
    exact ⟨t, o, a1, b1, b2, b3⟩
/-! ===== END ===== -/

/-! ===== BEGIN printed: names, fields, word lists, decode rows ===== -/
end
section
def RX0 : String := "PoreField$Booking"
def TX0 : u_T := fun k => match k with
  | 0 => ("PoreField$Booking", "reserves", "I", false)
  | 1 => ("PoreField$Booking", "produced", "I", false)
  | 2 => ("PoreField$Booking", "fresh", "I", false)
  | 3 => ("PoreField$Booking", "revised", "I", false)
  | 4 => ("PoreField$Booking", "at", "I", false)
  | 5 => ("PoreField$Booking", "wells", "I", false)
  | 6 => ("PoreField$Booking", "oil", "I", false)
  | _ => ("PoreField$Booking", "count", "I", false)
def tyX0 : Nat → FieldType := fun k => match k with
  | 0 => .int
  | 1 => .int
  | 2 => .int
  | 3 => .int
  | 4 => .int
  | 5 => .int
  | 6 => .int
  | _ => .int
abbrev wsX00 : List Cond := u_ws RX0 TX0 8
theorem nmX0 : ∀ a, a < 8 → ∀ b, b < 8 → a ≠ b → (TX0 a).2.1 ≠ (TX0 b).2.1 := by decide +kernel
theorem tyX0_ok : ∀ k, k < 8 → parseFieldDescriptor (TX0 k).2.2.1 = some (tyX0 k) := by decide +kernel
abbrev cX0_init : ByteArray := prog_2_method_1_code
def yX0_init : MethodName := ⟨RX0, "<init>", "()V"⟩
def RX1 : String := "PoreField$Cell"
def TX1 : u_T := fun k => match k with
  | 0 => ("PoreField$Cell", "room", "I", false)
  | 1 => ("PoreField$Cell", "fluids", "[I", true)
  | 2 => ("PoreField$Cell", "isShutEast", "Z", false)
  | _ => ("PoreField$Cell", "isShutSouth", "Z", false)
def tyX1 : Nat → FieldType := fun k => match k with
  | 0 => .int
  | 1 => .array .int
  | 2 => .boolean
  | _ => .boolean
abbrev wsX10 : List Cond := u_ws RX1 TX1 4
theorem nmX1 : ∀ a, a < 4 → ∀ b, b < 4 → a ≠ b → (TX1 a).2.1 ≠ (TX1 b).2.1 := by decide +kernel
theorem tyX1_ok : ∀ k, k < 4 → parseFieldDescriptor (TX1 k).2.2.1 = some (tyX1 k) := by decide +kernel
abbrev cX1_init : ByteArray := prog_3_method_1_code
def yX1_init : MethodName := ⟨RX1, "<init>", "()V"⟩
abbrev cX1_take : ByteArray := prog_3_method_2_code
def yX1_take : MethodName := ⟨RX1, "take", "(LPoreField$Cell;)V"⟩
abbrev cX1_isShut : ByteArray := prog_3_method_3_code
def yX1_isShut : MethodName := ⟨RX1, "isShut", "(Z)Z"⟩
abbrev cX1_shut : ByteArray := prog_3_method_4_code
def yX1_shut : MethodName := ⟨RX1, "shut", "(ZZ)V"⟩
abbrev cX1_all : ByteArray := prog_3_method_5_code
def yX1_all : MethodName := ⟨RX1, "all", "()I"⟩
abbrev cX1_pressure : ByteArray := prog_3_method_6_code
def yX1_pressure : MethodName := ⟨RX1, "pressure", "()I"⟩
abbrev cX1_flow : ByteArray := prog_3_method_7_code
def yX1_flow : MethodName := ⟨RX1, "flow", "(I)J"⟩
abbrev cX1_mostTimes : ByteArray := prog_3_method_8_code
def yX1_mostTimes : MethodName := ⟨RX1, "mostTimes", "(II)I"⟩
abbrev cX1_moveOut : ByteArray := prog_3_method_9_code
def yX1_moveOut : MethodName := ⟨RX1, "moveOut", "(I[I)V"⟩
def RX2 : String := "PoreField$Ground"
def TX2 : u_T := fun k => match k with
  | 0 => ("PoreField$Ground", "cells", "[LPoreField$Cell;", true)
  | 1 => ("PoreField$Ground", "wells", "[LPoreField$Well;", true)
  | 2 => ("PoreField$Ground", "drilled", "I", false)
  | 3 => ("PoreField$Ground", "capacity", "[I", true)
  | 4 => ("PoreField$Ground", "permit", "I", false)
  | 5 => ("PoreField$Ground", "tankSize", "I", false)
  | 6 => ("PoreField$Ground", "tankHas", "I", false)
  | 7 => ("PoreField$Ground", "cameUp", "[I", true)
  | 8 => ("PoreField$Ground", "gasOutlets", "I", false)
  | 9 => ("PoreField$Ground", "flared", "I", false)
  | 10 => ("PoreField$Ground", "putBack", "I", false)
  | _ => ("PoreField$Ground", "waterIn", "I", false)
def tyX2 : Nat → FieldType := fun k => match k with
  | 0 => .array (.object "PoreField$Cell")
  | 1 => .array (.object "PoreField$Well")
  | 2 => .int
  | 3 => .array .int
  | 4 => .int
  | 5 => .int
  | 6 => .int
  | 7 => .array .int
  | 8 => .int
  | 9 => .int
  | 10 => .int
  | _ => .int
abbrev wsX20 : List Cond := u_ws RX2 TX2 12
theorem nmX2 : ∀ a, a < 12 → ∀ b, b < 12 → a ≠ b → (TX2 a).2.1 ≠ (TX2 b).2.1 := by decide +kernel
theorem tyX2_ok : ∀ k, k < 12 → parseFieldDescriptor (TX2 k).2.2.1 = some (tyX2 k) := by decide +kernel
abbrev cX2_init : ByteArray := prog_4_method_1_code
def yX2_init : MethodName := ⟨RX2, "<init>", "()V"⟩
abbrev cX2_take : ByteArray := prog_4_method_2_code
def yX2_take : MethodName := ⟨RX2, "take", "(LPoreField$Ground;)V"⟩
abbrev cX2_inAllCells : ByteArray := prog_4_method_3_code
def yX2_inAllCells : MethodName := ⟨RX2, "inAllCells", "(I)I"⟩
abbrev cX2_faults : ByteArray := prog_4_method_4_code
def yX2_faults : MethodName := ⟨RX2, "faults", "()I"⟩
abbrev cX2_passMonths : ByteArray := prog_4_method_5_code
def yX2_passMonths : MethodName := ⟨RX2, "passMonths", "(I)I"⟩
abbrev cX2_passMonth : ByteArray := prog_4_method_6_code
def yX2_passMonth : MethodName := ⟨RX2, "passMonth", "()I"⟩
abbrev cX2_startMonth : ByteArray := prog_4_method_7_code
def yX2_startMonth : MethodName := ⟨RX2, "startMonth", "()V"⟩
abbrev cX2_produce : ByteArray := prog_4_method_8_code
def yX2_produce : MethodName := ⟨RX2, "produce", "(LPoreField$Well;)V"⟩
abbrev cX2_mayComeUp : ByteArray := prog_4_method_9_code
def yX2_mayComeUp : MethodName := ⟨RX2, "mayComeUp", "(I)I"⟩
abbrev cX2_putGasBack : ByteArray := prog_4_method_10_code
def yX2_putGasBack : MethodName := ⟨RX2, "putGasBack", "()V"⟩
abbrev cX2_putWaterIn : ByteArray := prog_4_method_11_code
def yX2_putWaterIn : MethodName := ⟨RX2, "putWaterIn", "()V"⟩
abbrev cX2_putIn : ByteArray := prog_4_method_12_code
def yX2_putIn : MethodName := ⟨RX2, "putIn", "(LPoreField$Well;II)V"⟩
abbrev cX2_evenOut : ByteArray := prog_4_method_13_code
def yX2_evenOut : MethodName := ⟨RX2, "evenOut", "(IZ)V"⟩
def RX3 : String := "PoreField$Partner"
def TX3 : u_T := fun k => match k with
  | 0 => ("PoreField$Partner", "share", "I", false)
  | 1 => ("PoreField$Partner", "entitled", "I", false)
  | 2 => ("PoreField$Partner", "lifted", "I", false)
  | _ => ("PoreField$Partner", "money", "I", false)
def tyX3 : Nat → FieldType := fun k => match k with
  | 0 => .int
  | 1 => .int
  | 2 => .int
  | _ => .int
abbrev wsX30 : List Cond := u_ws RX3 TX3 4
theorem nmX3 : ∀ a, a < 4 → ∀ b, b < 4 → a ≠ b → (TX3 a).2.1 ≠ (TX3 b).2.1 := by decide +kernel
theorem tyX3_ok : ∀ k, k < 4 → parseFieldDescriptor (TX3 k).2.2.1 = some (tyX3 k) := by decide +kernel
abbrev cX3_init : ByteArray := prog_5_method_1_code
def yX3_init : MethodName := ⟨RX3, "<init>", "()V"⟩
def RX4 : String := "PoreField$Well"
def TX4 : u_T := fun k => match k with
  | 0 => ("PoreField$Well", "kind", "I", false)
  | 1 => ("PoreField$Well", "cell", "I", false)
  | 2 => ("PoreField$Well", "choke", "I", false)
  | 3 => ("PoreField$Well", "rank", "I", false)
  | _ => ("PoreField$Well", "gave", "[I", true)
def tyX4 : Nat → FieldType := fun k => match k with
  | 0 => .int
  | 1 => .int
  | 2 => .int
  | 3 => .int
  | _ => .array .int
abbrev wsX40 : List Cond := u_ws RX4 TX4 5
theorem nmX4 : ∀ a, a < 5 → ∀ b, b < 5 → a ≠ b → (TX4 a).2.1 ≠ (TX4 b).2.1 := by decide +kernel
theorem tyX4_ok : ∀ k, k < 5 → parseFieldDescriptor (TX4 k).2.2.1 = some (tyX4 k) := by decide +kernel
abbrev cX4_init : ByteArray := prog_6_method_1_code
def yX4_init : MethodName := ⟨RX4, "<init>", "()V"⟩
abbrev cX4_take : ByteArray := prog_6_method_2_code
def yX4_take : MethodName := ⟨RX4, "take", "(LPoreField$Well;)V"⟩
abbrev cX4_forgetMonth : ByteArray := prog_6_method_3_code
def yX4_forgetMonth : MethodName := ⟨RX4, "forgetMonth", "()V"⟩
abbrev cX4_hasProduced : ByteArray := prog_6_method_4_code
def yX4_hasProduced : MethodName := ⟨RX4, "hasProduced", "()Z"⟩
def RX5 : String := "PoreField$WellLog"
def TX5 : u_T := fun k => match k with
  | 0 => ("PoreField$WellLog", "isPlugged", "Z", false)
  | 1 => ("PoreField$WellLog", "isToTest", "Z", false)
  | 2 => ("PoreField$WellLog", "test", "[I", true)
  | 3 => ("PoreField$WellLog", "oilEver", "I", false)
  | _ => ("PoreField$WellLog", "allocatedEver", "I", false)
def tyX5 : Nat → FieldType := fun k => match k with
  | 0 => .boolean
  | 1 => .boolean
  | 2 => .array .int
  | 3 => .int
  | _ => .int
abbrev wsX50 : List Cond := u_ws RX5 TX5 5
theorem nmX5 : ∀ a, a < 5 → ∀ b, b < 5 → a ≠ b → (TX5 a).2.1 ≠ (TX5 b).2.1 := by decide +kernel
theorem tyX5_ok : ∀ k, k < 5 → parseFieldDescriptor (TX5 k).2.2.1 = some (tyX5 k) := by decide +kernel
abbrev cX5_init : ByteArray := prog_7_method_1_code
def yX5_init : MethodName := ⟨RX5, "<init>", "()V"⟩
def RX6 : String := "PoreField"
def TX6 : u_T := fun k => match k with
  | 0 => ("PoreField", "ground", "LPoreField$Ground;", true)
  | 1 => ("PoreField", "trial", "LPoreField$Ground;", true)
  | 2 => ("PoreField", "logs", "[LPoreField$WellLog;", true)
  | 3 => ("PoreField", "partners", "[LPoreField$Partner;", true)
  | 4 => ("PoreField", "booking", "LPoreField$Booking;", true)
  | 5 => ("PoreField", "cameUpEver", "[I", true)
  | 6 => ("PoreField", "now", "I", false)
  | 7 => ("PoreField", "price", "I", false)
  | 8 => ("PoreField", "flaredEver", "I", false)
  | 9 => ("PoreField", "putBackEver", "I", false)
  | _ => ("PoreField", "waterInEver", "I", false)
def tyX6 : Nat → FieldType := fun k => match k with
  | 0 => .object "PoreField$Ground"
  | 1 => .object "PoreField$Ground"
  | 2 => .array (.object "PoreField$WellLog")
  | 3 => .array (.object "PoreField$Partner")
  | 4 => .object "PoreField$Booking"
  | 5 => .array .int
  | 6 => .int
  | 7 => .int
  | 8 => .int
  | 9 => .int
  | _ => .int
abbrev wsX60 : List Cond := u_ws RX6 TX6 11
theorem nmX6 : ∀ a, a < 11 → ∀ b, b < 11 → a ≠ b → (TX6 a).2.1 ≠ (TX6 b).2.1 := by decide +kernel
theorem tyX6_ok : ∀ k, k < 11 → parseFieldDescriptor (TX6 k).2.2.1 = some (tyX6 k) := by decide +kernel
abbrev cX6_init : ByteArray := prog_1_method_1_code
def yX6_init : MethodName := ⟨RX6, "<init>", "()V"⟩
abbrev cX6_cell : ByteArray := prog_1_method_2_code
def yX6_cell : MethodName := ⟨RX6, "cell", "(IIIII)I"⟩
abbrev cX6_fault : ByteArray := prog_1_method_3_code
def yX6_fault : MethodName := ⟨RX6, "fault", "(IZZ)Z"⟩
abbrev cX6_well : ByteArray := prog_1_method_4_code
def yX6_well : MethodName := ⟨RX6, "well", "(II)I"⟩
abbrev cX6_choke : ByteArray := prog_1_method_5_code
def yX6_choke : MethodName := ⟨RX6, "choke", "(II)I"⟩
abbrev cX6_rank : ByteArray := prog_1_method_6_code
def yX6_rank : MethodName := ⟨RX6, "rank", "(II)I"⟩
abbrev cX6_test : ByteArray := prog_1_method_7_code
def yX6_test : MethodName := ⟨RX6, "test", "(I)Z"⟩
abbrev cX6_plug : ByteArray := prog_1_method_8_code
def yX6_plug : MethodName := ⟨RX6, "plug", "(I)I"⟩
abbrev cX6_capacity : ByteArray := prog_1_method_9_code
def yX6_capacity : MethodName := ⟨RX6, "capacity", "(II)I"⟩
abbrev cX6_permit : ByteArray := prog_1_method_10_code
def yX6_permit : MethodName := ⟨RX6, "permit", "(I)I"⟩
abbrev cX6_pass : ByteArray := prog_1_method_14_code
def yX6_pass : MethodName := ⟨RX6, "pass", "(I)I"⟩
abbrev cX6_book : ByteArray := prog_1_method_16_code
def yX6_book : MethodName := ⟨RX6, "book", "()I"⟩
abbrev cX6_ofCell : ByteArray := prog_1_method_17_code
def yX6_ofCell : MethodName := ⟨RX6, "ofCell", "(II)I"⟩
abbrev cX6_ofWell : ByteArray := prog_1_method_18_code
def yX6_ofWell : MethodName := ⟨RX6, "ofWell", "(II)I"⟩
abbrev cX6_ofPartner : ByteArray := prog_1_method_19_code
def yX6_ofPartner : MethodName := ⟨RX6, "ofPartner", "(II)I"⟩
abbrev cX6_booked : ByteArray := prog_1_method_20_code
def yX6_booked : MethodName := ⟨RX6, "booked", "(I)I"⟩
abbrev cX6_many : ByteArray := prog_1_method_21_code
def yX6_many : MethodName := ⟨RX6, "many", "(I)I"⟩
abbrev cX6_wouldGive : ByteArray := prog_1_method_23_code
def yX6_wouldGive : MethodName := ⟨RX6, "wouldGive", "(I)I"⟩
abbrev cX6_bestChoke : ByteArray := prog_1_method_24_code
def yX6_bestChoke : MethodName := ⟨RX6, "bestChoke", "(II)I"⟩
abbrev cX6_keptBack : ByteArray := prog_1_method_25_code
def yX6_keptBack : MethodName := ⟨RX6, "keptBack", "(IZI)I"⟩
abbrev cX6_mayLift : ByteArray := prog_1_method_26_code
def yX6_mayLift : MethodName := ⟨RX6, "mayLift", "(I)I"⟩
abbrev cX6_digest : ByteArray := prog_1_method_27_code
def yX6_digest : MethodName := ⟨RX6, "digest", "()J"⟩
abbrev cX6_needIndex : ByteArray := prog_1_method_28_code
def yX6_needIndex : MethodName := ⟨RX6, "needIndex", "(II)V"⟩
abbrev cX6_needNeighbour : ByteArray := prog_1_method_29_code
def yX6_needNeighbour : MethodName := ⟨RX6, "needNeighbour", "(IZ)V"⟩
abbrev cX6_needWithin : ByteArray := prog_1_method_30_code
def yX6_needWithin : MethodName := ⟨RX6, "needWithin", "(III)V"⟩
abbrev cX6_needOpen : ByteArray := prog_1_method_31_code
def yX6_needOpen : MethodName := ⟨RX6, "needOpen", "(I)V"⟩
abbrev cX6_neighbour : ByteArray := prog_1_method_32_code
def yX6_neighbour : MethodName := ⟨RX6, "neighbour", "(IZ)I"⟩
abbrev cX6_countMonth : ByteArray := prog_1_method_33_code
def yX6_countMonth : MethodName := ⟨RX6, "countMonth", "()V"⟩
abbrev cX6_allocate : ByteArray := prog_1_method_34_code
def yX6_allocate : MethodName := ⟨RX6, "allocate", "(I)V"⟩
abbrev cX6_allocateOneByOne : ByteArray := prog_1_method_35_code
def yX6_allocateOneByOne : MethodName := ⟨RX6, "allocateOneByOne", "(I)V"⟩
abbrev cX6_keepTests : ByteArray := prog_1_method_36_code
def yX6_keepTests : MethodName := ⟨RX6, "keepTests", "()V"⟩
abbrev cX6_entitle : ByteArray := prog_1_method_37_code
def yX6_entitle : MethodName := ⟨RX6, "entitle", "(I)V"⟩
abbrev cX6_reservesOf : ByteArray := prog_1_method_38_code
def yX6_reservesOf : MethodName := ⟨RX6, "reservesOf", "(I)I"⟩
def RX7 : String := "PoreFieldLaw$Told"
def TX7 : u_T := fun k => match k with
  | 0 => ("PoreFieldLaw$Told", "m", "LPoreField;", true)
  | 1 => ("PoreFieldLaw$Told", "s", "[I", true)
  | 2 => ("PoreFieldLaw$Told", "draws", "I", false)
  | 3 => ("PoreFieldLaw$Told", "rooms", "[I", true)
  | 4 => ("PoreFieldLaw$Told", "has", "[[I", true)
  | 5 => ("PoreFieldLaw$Told", "isShut", "[[Z", true)
  | 6 => ("PoreFieldLaw$Told", "wells", "[[I", false)
  | 7 => ("PoreFieldLaw$Told", "capacities", "[I", true)
  | 8 => ("PoreFieldLaw$Told", "permit", "I", false)
  | 9 => ("PoreFieldLaw$Told", "tank", "I", false)
  | 10 => ("PoreFieldLaw$Told", "stored", "I", false)
  | 11 => ("PoreFieldLaw$Told", "now", "I", false)
  | _ => ("PoreFieldLaw$Told", "sums", "[I", true)
def tyX7 : Nat → FieldType := fun k => match k with
  | 0 => .object "PoreField"
  | 1 => .array .int
  | 2 => .int
  | 3 => .array .int
  | 4 => .array (.array .int)
  | 5 => .array (.array .boolean)
  | 6 => .array (.array .int)
  | 7 => .array .int
  | 8 => .int
  | 9 => .int
  | 10 => .int
  | 11 => .int
  | _ => .array .int
abbrev wsX70 : List Cond := u_ws RX7 TX7 13
theorem nmX7 : ∀ a, a < 13 → ∀ b, b < 13 → a ≠ b → (TX7 a).2.1 ≠ (TX7 b).2.1 := by decide +kernel
theorem tyX7_ok : ∀ k, k < 13 → parseFieldDescriptor (TX7 k).2.2.1 = some (tyX7 k) := by decide +kernel
abbrev cX7_init : ByteArray := prog_9_method_1_code
def yX7_init : MethodName := ⟨RX7, "<init>", "([II)V"⟩
abbrev cX7_draw : ByteArray := prog_9_method_2_code
def yX7_draw : MethodName := ⟨RX7, "draw", "(I)I"⟩
abbrev cX7_lay : ByteArray := prog_9_method_3_code
def yX7_lay : MethodName := ⟨RX7, "lay", "(IIIII)Z"⟩
abbrev cX7_well : ByteArray := prog_9_method_4_code
def yX7_well : MethodName := ⟨RX7, "well", "(II)Z"⟩
abbrev cX7_choke : ByteArray := prog_9_method_5_code
def yX7_choke : MethodName := ⟨RX7, "choke", "(II)Z"⟩
abbrev cX7_fault : ByteArray := prog_9_method_6_code
def yX7_fault : MethodName := ⟨RX7, "fault", "(IZZ)Z"⟩
abbrev cX7_all : ByteArray := prog_9_method_7_code
def yX7_all : MethodName := ⟨RX7, "all", "(I)I"⟩
abbrev cX7_pressure : ByteArray := prog_9_method_8_code
def yX7_pressure : MethodName := ⟨RX7, "pressure", "(I)I"⟩
abbrev cX7_found : ByteArray := prog_9_method_15_code
def yX7_found : MethodName := ⟨RX7, "found", "(I)Z"⟩
abbrev cX7_turn : ByteArray := prog_9_method_16_code
def yX7_turn : MethodName := ⟨RX7, "turn", "()Z"⟩
def RX8 : String := "PoreFieldModel$Field"
def TX8 : u_T := fun k => match k with
  | _ => ("", "", "", false)
def tyX8 : Nat → FieldType := fun k => match k with
  | _ => .int
abbrev wsX80 : List Cond := u_ws RX8 TX8 0
theorem nmX8 : ∀ a, a < 0 → ∀ b, b < 0 → a ≠ b → (TX8 a).2.1 ≠ (TX8 b).2.1 := by decide +kernel
theorem tyX8_ok : ∀ k, k < 0 → parseFieldDescriptor (TX8 k).2.2.1 = some (tyX8 k) := by decide +kernel
def RX9 : String := "PoreFieldModel"
def TX9 : u_T := fun k => match k with
  | _ => ("", "", "", false)
def tyX9 : Nat → FieldType := fun k => match k with
  | _ => .int
abbrev wsX90 : List Cond := u_ws RX9 TX9 0
theorem nmX9 : ∀ a, a < 0 → ∀ b, b < 0 → a ≠ b → (TX9 a).2.1 ≠ (TX9 b).2.1 := by decide +kernel
theorem tyX9_ok : ∀ k, k < 0 → parseFieldDescriptor (TX9 k).2.2.1 = some (tyX9 k) := by decide +kernel
def RJ9 : String := "java/lang/Math"
def TJ9 : u_T := fun k => match k with
  | _ => ("", "", "", false)
def tyJ9 : Nat → FieldType := fun k => match k with
  | _ => .int
abbrev wsJ90 : List Cond := u_ws RJ9 TJ9 0
theorem nmJ9 : ∀ a, a < 0 → ∀ b, b < 0 → a ≠ b → (TJ9 a).2.1 ≠ (TJ9 b).2.1 := by decide +kernel
theorem tyJ9_ok : ∀ k, k < 0 → parseFieldDescriptor (TJ9 k).2.2.1 = some (tyJ9 k) := by decide +kernel
abbrev cJ9_max_7cf53 : ByteArray := prog_16_method_65_code
def yJ9_max_7cf53 : MethodName := ⟨RJ9, "max", "(II)I"⟩
abbrev cJ9_min_7cf53 : ByteArray := prog_16_method_69_code
def yJ9_min_7cf53 : MethodName := ⟨RJ9, "min", "(II)I"⟩
abbrev cJ9_min_f86c9 : ByteArray := prog_16_method_70_code
def yJ9_min_f86c9 : MethodName := ⟨RJ9, "min", "(JJ)J"⟩
def RJ0 : String := "java/lang/String"
def TJ0 : u_T := fun k => match k with
  | _ => ("", "", "", false)
def tyJ0 : Nat → FieldType := fun k => match k with
  | _ => .int
abbrev wsJ00 : List Cond := u_ws RJ0 TJ0 0
theorem nmJ0 : ∀ a, a < 0 → ∀ b, b < 0 → a ≠ b → (TJ0 a).2.1 ≠ (TJ0 b).2.1 := by decide +kernel
theorem tyJ0_ok : ∀ k, k < 0 → parseFieldDescriptor (TJ0 k).2.2.1 = some (tyJ0 k) := by decide +kernel
def RJ10 : String := "java/lang/System"
def TJ10 : u_T := fun k => match k with
  | _ => ("", "", "", false)
def tyJ10 : Nat → FieldType := fun k => match k with
  | _ => .int
abbrev wsJ100 : List Cond := u_ws RJ10 TJ10 0
theorem nmJ10 : ∀ a, a < 0 → ∀ b, b < 0 → a ≠ b → (TJ10 a).2.1 ≠ (TJ10 b).2.1 := by decide +kernel
theorem tyJ10_ok : ∀ k, k < 0 → parseFieldDescriptor (TJ10 k).2.2.1 = some (tyJ10 k) := by decide +kernel
def RL : String := "PoreFieldLaw"
abbrev cL_below : ByteArray := method_2_code
def yL_below : MethodName := ⟨RL, "below", "(II)I"⟩
abbrev cL_cell : ByteArray := method_3_code
def yL_cell : MethodName := ⟨RL, "cell", "([II)I"⟩
abbrev cL_law : ByteArray := code
def yL_law : MethodName := ⟨RL, "law", "([I)Z"⟩
def wsX0_init : List Cond := .code yX0_init cX0_init 1 none :: ([.methodLink RX0 3 objectInit, .instanceMethod objectInit, .code objectInit ⟨#[0xb1]⟩ 1 none, .fieldLink RX0 9 "PoreField$Booking" "at" "I"] ++ wsX00)
def wsX1_init : List Cond := .code yX1_init cX1_init 1 none :: ([.methodLink RX1 3 objectInit, .instanceMethod objectInit, .code objectInit ⟨#[0xb1]⟩ 1 none, .fieldLink RX1 9 "PoreField$Cell" "room" "I", .arrayClass .int, .fieldLink RX1 15 "PoreField$Cell" "fluids" "[I"] ++ wsX10)
def wsX1_take : List Cond := .code yX1_take cX1_take 2 none :: ([.fieldLink RX1 9 "PoreField$Cell" "room" "I", .fieldLink RX1 15 "PoreField$Cell" "fluids" "[I", .methodLink RX1 19 arraycopyName, .native arraycopyName, .static arraycopyName, .initialized "java/lang/System", .fieldLink RX1 25 "PoreField$Cell" "isShutEast" "Z", .fieldLink RX1 29 "PoreField$Cell" "isShutSouth" "Z"] ++ wsX10)
def wsX1_isShut : List Cond := .code yX1_isShut cX1_isShut 2 (some .boolean) :: ([.fieldLink RX1 25 "PoreField$Cell" "isShutEast" "Z", .fieldLink RX1 29 "PoreField$Cell" "isShutSouth" "Z"] ++ wsX10)
def wsX1_shut : List Cond := .code yX1_shut cX1_shut 3 none :: ([.fieldLink RX1 25 "PoreField$Cell" "isShutEast" "Z", .fieldLink RX1 29 "PoreField$Cell" "isShutSouth" "Z"] ++ wsX10)
def wsX1_all : List Cond := .code yX1_all cX1_all 1 (some .int) :: ([.fieldLink RX1 15 "PoreField$Cell" "fluids" "[I"] ++ wsX10)
def wsX1_pressure : List Cond := .code yX1_pressure cX1_pressure 1 (some .int) :: ([.fieldLink RX1 9 "PoreField$Cell" "room" "I", .methodLink RX1 32 yX1_all, .instanceMethod yX1_all, .selects RX1 yX1_all yX1_all, .initialized RX1, .code yX1_all cX1_all 1 (some .int), .fieldLink RX1 15 "PoreField$Cell" "fluids" "[I"] ++ wsX10)
def wsX1_flow : List Cond := .code yX1_flow cX1_flow 2 (some .long) :: ([.constantLong RX1 36 (2), .fieldLink RX1 15 "PoreField$Cell" "fluids" "[I"] ++ wsX10)
def wsX1_mostTimes : List Cond := .code yX1_mostTimes cX1_mostTimes 3 (some .int) :: ([.fieldLink RX1 15 "PoreField$Cell" "fluids" "[I", .methodLink RX1 32 yX1_all, .instanceMethod yX1_all, .selects RX1 yX1_all yX1_all, .initialized RX1, .code yX1_all cX1_all 1 (some .int), .methodLink RX1 38 yX1_flow, .instanceMethod yX1_flow, .selects RX1 yX1_flow yX1_flow, .code yX1_flow cX1_flow 2 (some .long), .constantLong RX1 36 (2)] ++ wsX10)
def wsX1_moveOut : List Cond := .code yX1_moveOut cX1_moveOut 6 none :: ([.fieldLink RX1 15 "PoreField$Cell" "fluids" "[I", .methodLink RX1 42 Lib.Math.min.name, .static Lib.Math.min.name, .initialized "java/lang/Math", .code Lib.Math.min.name Lib.Math.min.code 2 (some .int), .methodLink RX1 48 Lib.MathLoose.min_long.x, .static Lib.MathLoose.min_long.x, .code Lib.MathLoose.min_long.x Lib.MathLoose.min_long.code 4 (some .long), .methodLink RX1 32 yX1_all, .instanceMethod yX1_all, .selects RX1 yX1_all yX1_all, .initialized RX1, .code yX1_all cX1_all 1 (some .int), .methodLink RX1 38 yX1_flow, .instanceMethod yX1_flow, .selects RX1 yX1_flow yX1_flow, .code yX1_flow cX1_flow 2 (some .long), .constantLong RX1 36 (2)] ++ wsX10)
def wsX4_init : List Cond := .code yX4_init cX4_init 1 none :: ([.methodLink RX4 3 objectInit, .instanceMethod objectInit, .code objectInit ⟨#[0xb1]⟩ 1 none, .fieldLink RX4 9 "PoreField$Well" "rank" "I", .arrayClass .int, .fieldLink RX4 15 "PoreField$Well" "gave" "[I"] ++ wsX40)
def wsX2_init_r1 : List Cond := [Cond.methodLink RX2 3 objectInit, Cond.instanceMethod objectInit, Cond.code objectInit ⟨#[0xb1]⟩ 1 none, Cond.classLink RX2 9 RX1, Cond.fieldLink RX2 11 "PoreField$Ground" "cells" "[LPoreField$Cell;", Cond.classLink RX2 17 RX4, Cond.fieldLink RX2 19 "PoreField$Ground" "wells" "[LPoreField$Well;", Cond.arrayClass .int, Cond.fieldLink RX2 23 "PoreField$Ground" "capacity" "[I", Cond.fieldLink RX2 27 "PoreField$Ground" "permit" "I", Cond.fieldLink RX2 31 "PoreField$Ground" "tankSize" "I", Cond.fieldLink RX2 34 "PoreField$Ground" "cameUp" "[I", Cond.instantiable RX1 4, Cond.initialized RX1, Cond.instantiable RX4 5, Cond.initialized RX4, Cond.instanceMethod yX1_init, Cond.code yX1_init cX1_init 1 none, Cond.methodLink RX1 3 objectInit, Cond.fieldLink RX1 9 "PoreField$Cell" "room" "I", Cond.fieldLink RX1 15 "PoreField$Cell" "fluids" "[I", Cond.instanceMethod yX4_init, Cond.code yX4_init cX4_init 1 none, Cond.methodLink RX4 3 objectInit]
def wsX2_init_r2 : List Cond := [Cond.fieldLink RX4 9 "PoreField$Well" "rank" "I", Cond.fieldLink RX4 15 "PoreField$Well" "gave" "[I"]
def wsX2_init : List Cond := .code yX2_init cX2_init 2 none :: ((wsX2_init_r1 ++ wsX2_init_r2) ++ wsX20 ++ wsX10 ++ wsX40)
def wsX4_take : List Cond := .code yX4_take cX4_take 2 none :: ([.fieldLink RX4 19 "PoreField$Well" "kind" "I", .fieldLink RX4 22 "PoreField$Well" "cell" "I", .fieldLink RX4 25 "PoreField$Well" "choke" "I", .fieldLink RX4 9 "PoreField$Well" "rank" "I"] ++ wsX40)
def wsX2_take_r1 : List Cond := [Cond.fieldLink RX2 11 "PoreField$Ground" "cells" "[LPoreField$Cell;", Cond.fieldLink RX2 19 "PoreField$Ground" "wells" "[LPoreField$Well;", Cond.fieldLink RX2 46 "PoreField$Ground" "drilled" "I", Cond.fieldLink RX2 23 "PoreField$Ground" "capacity" "[I", Cond.methodLink RX2 49 arraycopyName, Cond.native arraycopyName, Cond.static arraycopyName, Cond.initialized "java/lang/System", Cond.fieldLink RX2 27 "PoreField$Ground" "permit" "I", Cond.fieldLink RX2 31 "PoreField$Ground" "tankSize" "I", Cond.fieldLink RX2 55 "PoreField$Ground" "tankHas" "I", Cond.methodLink RX2 39 yX1_take, Cond.instanceMethod yX1_take, Cond.selects RX1 yX1_take yX1_take, Cond.initialized RX1, Cond.code yX1_take cX1_take 2 none, Cond.fieldLink RX1 9 "PoreField$Cell" "room" "I", Cond.fieldLink RX1 15 "PoreField$Cell" "fluids" "[I", Cond.methodLink RX1 19 arraycopyName, Cond.fieldLink RX1 25 "PoreField$Cell" "isShutEast" "Z", Cond.fieldLink RX1 29 "PoreField$Cell" "isShutSouth" "Z", Cond.methodLink RX2 43 yX4_take, Cond.instanceMethod yX4_take, Cond.selects RX4 yX4_take yX4_take]
def wsX2_take_r2 : List Cond := [Cond.initialized RX4, Cond.code yX4_take cX4_take 2 none, Cond.fieldLink RX4 19 "PoreField$Well" "kind" "I", Cond.fieldLink RX4 22 "PoreField$Well" "cell" "I", Cond.fieldLink RX4 25 "PoreField$Well" "choke" "I", Cond.fieldLink RX4 9 "PoreField$Well" "rank" "I"]
def wsX2_take : List Cond := .code yX2_take cX2_take 3 none :: ((wsX2_take_r1 ++ wsX2_take_r2) ++ wsX20 ++ wsX10 ++ wsX40)
def wsX2_inAllCells : List Cond := .code yX2_inAllCells cX2_inAllCells 4 (some .int) :: ([.fieldLink RX2 11 "PoreField$Ground" "cells" "[LPoreField$Cell;", .fieldLink RX2 58 "PoreField$Cell" "fluids" "[I"] ++ wsX20 ++ wsX10)
def wsX2_faults : List Cond := .code yX2_faults cX2_faults 3 (some .int) :: ([.fieldLink RX2 11 "PoreField$Ground" "cells" "[LPoreField$Cell;", .methodLink RX2 61 yX1_isShut, .instanceMethod yX1_isShut, .selects RX1 yX1_isShut yX1_isShut, .initialized RX1, .code yX1_isShut cX1_isShut 2 (some .boolean), .fieldLink RX1 25 "PoreField$Cell" "isShutEast" "Z", .fieldLink RX1 29 "PoreField$Cell" "isShutSouth" "Z"] ++ wsX20 ++ wsX10)
def wsX4_forgetMonth : List Cond := .code yX4_forgetMonth cX4_forgetMonth 2 none :: ([.fieldLink RX4 15 "PoreField$Well" "gave" "[I"] ++ wsX40)
def wsX2_startMonth : List Cond := .code yX2_startMonth cX2_startMonth 2 none :: ([.fieldLink RX2 34 "PoreField$Ground" "cameUp" "[I", .fieldLink RX2 91 "PoreField$Ground" "putBack" "I", .fieldLink RX2 94 "PoreField$Ground" "waterIn" "I", .fieldLink RX2 27 "PoreField$Ground" "permit" "I", .fieldLink RX2 97 "PoreField$Ground" "gasOutlets" "I", .fieldLink RX2 46 "PoreField$Ground" "drilled" "I", .fieldLink RX2 19 "PoreField$Ground" "wells" "[LPoreField$Well;", .fieldLink RX2 72 "PoreField$Well" "kind" "I", .fieldLink RX2 103 "PoreField$Well" "choke" "I", .methodLink RX2 100 yX4_forgetMonth, .instanceMethod yX4_forgetMonth, .selects RX4 yX4_forgetMonth yX4_forgetMonth, .initialized RX4, .code yX4_forgetMonth cX4_forgetMonth 2 none, .fieldLink RX4 15 "PoreField$Well" "gave" "[I"] ++ wsX20 ++ wsX40)
def wsX2_mayComeUp : List Cond := .code yX2_mayComeUp cX2_mayComeUp 3 (some .int) :: ([.fieldLink RX2 23 "PoreField$Ground" "capacity" "[I", .fieldLink RX2 34 "PoreField$Ground" "cameUp" "[I", .fieldLink RX2 31 "PoreField$Ground" "tankSize" "I", .fieldLink RX2 55 "PoreField$Ground" "tankHas" "I", .methodLink RX2 125 Lib.Math.min.name, .static Lib.Math.min.name, .initialized "java/lang/Math", .code Lib.Math.min.name Lib.Math.min.code 2 (some .int), .fieldLink RX2 97 "PoreField$Ground" "gasOutlets" "I"] ++ wsX20)
def wsX2_produce_r1 : List Cond := [Cond.fieldLink RX2 11 "PoreField$Ground" "cells" "[LPoreField$Cell;", Cond.fieldLink RX2 106 "PoreField$Well" "cell" "I", Cond.methodLink RX2 112 Lib.Math.max.name, Cond.static Lib.Math.max.name, Cond.initialized "java/lang/Math", Cond.code Lib.Math.max.name Lib.Math.max.code 2 (some .int), Cond.fieldLink RX2 103 "PoreField$Well" "choke" "I", Cond.methodLink RX2 125 Lib.Math.min.name, Cond.static Lib.Math.min.name, Cond.code Lib.Math.min.name Lib.Math.min.code 2 (some .int), Cond.fieldLink RX2 128 "PoreField$Well" "gave" "[I", Cond.fieldLink RX2 34 "PoreField$Ground" "cameUp" "[I", Cond.fieldLink RX2 55 "PoreField$Ground" "tankHas" "I", Cond.methodLink RX2 109 yX1_pressure, Cond.instanceMethod yX1_pressure, Cond.selects RX1 yX1_pressure yX1_pressure, Cond.initialized RX1, Cond.code yX1_pressure cX1_pressure 1 (some .int), Cond.fieldLink RX1 9 "PoreField$Cell" "room" "I", Cond.methodLink RX1 32 yX1_all, Cond.instanceMethod yX1_all, Cond.selects RX1 yX1_all yX1_all, Cond.code yX1_all cX1_all 1 (some .int), Cond.fieldLink RX1 15 "PoreField$Cell" "fluids" "[I"]
def wsX2_produce_r2 : List Cond := [Cond.methodLink RX2 118 yX2_mayComeUp, Cond.instanceMethod yX2_mayComeUp, Cond.selects RX2 yX2_mayComeUp yX2_mayComeUp, Cond.initialized RX2, Cond.code yX2_mayComeUp cX2_mayComeUp 3 (some .int), Cond.fieldLink RX2 23 "PoreField$Ground" "capacity" "[I", Cond.fieldLink RX2 31 "PoreField$Ground" "tankSize" "I", Cond.fieldLink RX2 97 "PoreField$Ground" "gasOutlets" "I", Cond.methodLink RX2 122 yX1_mostTimes, Cond.instanceMethod yX1_mostTimes, Cond.selects RX1 yX1_mostTimes yX1_mostTimes, Cond.code yX1_mostTimes cX1_mostTimes 3 (some .int), Cond.methodLink RX1 38 yX1_flow, Cond.instanceMethod yX1_flow, Cond.selects RX1 yX1_flow yX1_flow, Cond.code yX1_flow cX1_flow 2 (some .long), Cond.constantLong RX1 36 (2), Cond.methodLink RX2 131 yX1_moveOut, Cond.instanceMethod yX1_moveOut, Cond.selects RX1 yX1_moveOut yX1_moveOut, Cond.code yX1_moveOut cX1_moveOut 6 none, Cond.methodLink RX1 42 Lib.Math.min.name, Cond.methodLink RX1 48 Lib.MathLoose.min_long.x, Cond.static Lib.MathLoose.min_long.x]
def wsX2_produce_r3 : List Cond := [Cond.code Lib.MathLoose.min_long.x Lib.MathLoose.min_long.code 4 (some .long)]
def wsX2_produce : List Cond := .code yX2_produce cX2_produce 6 none :: ((wsX2_produce_r1 ++ (wsX2_produce_r2 ++ wsX2_produce_r3)) ++ wsX20 ++ wsX40 ++ wsX10)
def wsX2_putIn : List Cond := .code yX2_putIn cX2_putIn 4 none :: ([.fieldLink RX2 11 "PoreField$Ground" "cells" "[LPoreField$Cell;", .fieldLink RX2 106 "PoreField$Well" "cell" "I", .fieldLink RX2 58 "PoreField$Cell" "fluids" "[I", .fieldLink RX2 128 "PoreField$Well" "gave" "[I"] ++ wsX20 ++ wsX40 ++ wsX10)
def wsX2_putGasBack : List Cond := .code yX2_putGasBack cX2_putGasBack 4 none :: ([.fieldLink RX2 34 "PoreField$Ground" "cameUp" "[I", .fieldLink RX2 46 "PoreField$Ground" "drilled" "I", .fieldLink RX2 19 "PoreField$Ground" "wells" "[LPoreField$Well;", .fieldLink RX2 72 "PoreField$Well" "kind" "I", .fieldLink RX2 103 "PoreField$Well" "choke" "I", .methodLink RX2 125 Lib.Math.min.name, .static Lib.Math.min.name, .initialized "java/lang/Math", .code Lib.Math.min.name Lib.Math.min.code 2 (some .int), .fieldLink RX2 91 "PoreField$Ground" "putBack" "I", .fieldLink RX2 139 "PoreField$Ground" "flared" "I", .methodLink RX2 135 yX2_putIn, .instanceMethod yX2_putIn, .selects RX2 yX2_putIn yX2_putIn, .initialized RX2, .code yX2_putIn cX2_putIn 4 none, .fieldLink RX2 11 "PoreField$Ground" "cells" "[LPoreField$Cell;", .fieldLink RX2 106 "PoreField$Well" "cell" "I", .fieldLink RX2 58 "PoreField$Cell" "fluids" "[I", .fieldLink RX2 128 "PoreField$Well" "gave" "[I"] ++ wsX20 ++ wsX40 ++ wsX10)
def wsX2_putWaterIn_r1 : List Cond := [Cond.fieldLink RX2 46 "PoreField$Ground" "drilled" "I", Cond.fieldLink RX2 19 "PoreField$Ground" "wells" "[LPoreField$Well;", Cond.fieldLink RX2 72 "PoreField$Well" "kind" "I", Cond.fieldLink RX2 11 "PoreField$Ground" "cells" "[LPoreField$Cell;", Cond.fieldLink RX2 106 "PoreField$Well" "cell" "I", Cond.fieldLink RX2 103 "PoreField$Well" "choke" "I", Cond.fieldLink RX2 94 "PoreField$Ground" "waterIn" "I", Cond.methodLink RX2 109 yX1_pressure, Cond.instanceMethod yX1_pressure, Cond.selects RX1 yX1_pressure yX1_pressure, Cond.initialized RX1, Cond.code yX1_pressure cX1_pressure 1 (some .int), Cond.fieldLink RX1 9 "PoreField$Cell" "room" "I", Cond.methodLink RX1 32 yX1_all, Cond.instanceMethod yX1_all, Cond.selects RX1 yX1_all yX1_all, Cond.code yX1_all cX1_all 1 (some .int), Cond.fieldLink RX1 15 "PoreField$Cell" "fluids" "[I", Cond.methodLink RX2 135 yX2_putIn, Cond.instanceMethod yX2_putIn, Cond.selects RX2 yX2_putIn yX2_putIn, Cond.initialized RX2, Cond.code yX2_putIn cX2_putIn 4 none, Cond.fieldLink RX2 58 "PoreField$Cell" "fluids" "[I"]
def wsX2_putWaterIn_r2 : List Cond := [Cond.fieldLink RX2 128 "PoreField$Well" "gave" "[I"]
def wsX2_putWaterIn : List Cond := .code yX2_putWaterIn cX2_putWaterIn 3 none :: ((wsX2_putWaterIn_r1 ++ wsX2_putWaterIn_r2) ++ wsX20 ++ wsX40 ++ wsX10)
def wsX6_neighbour : List Cond := .code yX6_neighbour cX6_neighbour 2 (some .int) :: ([])
def wsX2_evenOut_r1 : List Cond := [Cond.fieldLink RX2 11 "PoreField$Ground" "cells" "[LPoreField$Cell;", Cond.fieldLink RX2 58 "PoreField$Cell" "fluids" "[I", Cond.static yX6_neighbour, Cond.initialized RX6, Cond.code yX6_neighbour cX6_neighbour 2 (some .int), Cond.methodLink RX2 61 yX1_isShut, Cond.instanceMethod yX1_isShut, Cond.selects RX1 yX1_isShut yX1_isShut, Cond.initialized RX1, Cond.code yX1_isShut cX1_isShut 2 (some .boolean), Cond.fieldLink RX1 25 "PoreField$Cell" "isShutEast" "Z", Cond.fieldLink RX1 29 "PoreField$Cell" "isShutSouth" "Z", Cond.methodLink RX2 109 yX1_pressure, Cond.instanceMethod yX1_pressure, Cond.selects RX1 yX1_pressure yX1_pressure, Cond.code yX1_pressure cX1_pressure 1 (some .int), Cond.fieldLink RX1 9 "PoreField$Cell" "room" "I", Cond.methodLink RX1 32 yX1_all, Cond.instanceMethod yX1_all, Cond.selects RX1 yX1_all yX1_all, Cond.code yX1_all cX1_all 1 (some .int), Cond.fieldLink RX1 15 "PoreField$Cell" "fluids" "[I", Cond.methodLink RX2 131 yX1_moveOut, Cond.instanceMethod yX1_moveOut]
def wsX2_evenOut_r2 : List Cond := [Cond.selects RX1 yX1_moveOut yX1_moveOut, Cond.code yX1_moveOut cX1_moveOut 6 none, Cond.methodLink RX1 42 Lib.Math.min.name, Cond.static Lib.Math.min.name, Cond.initialized "java/lang/Math", Cond.code Lib.Math.min.name Lib.Math.min.code 2 (some .int), Cond.methodLink RX1 48 Lib.MathLoose.min_long.x, Cond.static Lib.MathLoose.min_long.x, Cond.code Lib.MathLoose.min_long.x Lib.MathLoose.min_long.code 4 (some .long), Cond.methodLink RX1 38 yX1_flow, Cond.instanceMethod yX1_flow, Cond.selects RX1 yX1_flow yX1_flow, Cond.code yX1_flow cX1_flow 2 (some .long), Cond.constantLong RX1 36 (2)]
def wsX2_evenOut : List Cond := .code yX2_evenOut cX2_evenOut 7 none :: ((wsX2_evenOut_r1 ++ wsX2_evenOut_r2) ++ wsX20 ++ wsX10)
def wsX2_passMonth_r1 : List Cond := [Cond.fieldLink RX2 46 "PoreField$Ground" "drilled" "I", Cond.fieldLink RX2 19 "PoreField$Ground" "wells" "[LPoreField$Well;", Cond.fieldLink RX2 72 "PoreField$Well" "kind" "I", Cond.fieldLink RX2 75 "PoreField$Well" "rank" "I", Cond.fieldLink RX2 34 "PoreField$Ground" "cameUp" "[I", Cond.methodLink RX2 69 yX2_startMonth, Cond.instanceMethod yX2_startMonth, Cond.selects RX2 yX2_startMonth yX2_startMonth, Cond.initialized RX2, Cond.code yX2_startMonth cX2_startMonth 2 none, Cond.fieldLink RX2 91 "PoreField$Ground" "putBack" "I", Cond.fieldLink RX2 94 "PoreField$Ground" "waterIn" "I", Cond.fieldLink RX2 27 "PoreField$Ground" "permit" "I", Cond.fieldLink RX2 97 "PoreField$Ground" "gasOutlets" "I", Cond.fieldLink RX2 103 "PoreField$Well" "choke" "I", Cond.methodLink RX2 100 yX4_forgetMonth, Cond.instanceMethod yX4_forgetMonth, Cond.selects RX4 yX4_forgetMonth yX4_forgetMonth, Cond.initialized RX4, Cond.code yX4_forgetMonth cX4_forgetMonth 2 none, Cond.fieldLink RX4 15 "PoreField$Well" "gave" "[I", Cond.methodLink RX2 78 yX2_produce, Cond.instanceMethod yX2_produce, Cond.selects RX2 yX2_produce yX2_produce]
def wsX2_passMonth_r2 : List Cond := [Cond.code yX2_produce cX2_produce 6 none, Cond.fieldLink RX2 11 "PoreField$Ground" "cells" "[LPoreField$Cell;", Cond.fieldLink RX2 106 "PoreField$Well" "cell" "I", Cond.methodLink RX2 112 Lib.Math.max.name, Cond.static Lib.Math.max.name, Cond.initialized "java/lang/Math", Cond.code Lib.Math.max.name Lib.Math.max.code 2 (some .int), Cond.methodLink RX2 125 Lib.Math.min.name, Cond.static Lib.Math.min.name, Cond.code Lib.Math.min.name Lib.Math.min.code 2 (some .int), Cond.fieldLink RX2 128 "PoreField$Well" "gave" "[I", Cond.fieldLink RX2 55 "PoreField$Ground" "tankHas" "I", Cond.methodLink RX2 109 yX1_pressure, Cond.instanceMethod yX1_pressure, Cond.selects RX1 yX1_pressure yX1_pressure, Cond.initialized RX1, Cond.code yX1_pressure cX1_pressure 1 (some .int), Cond.fieldLink RX1 9 "PoreField$Cell" "room" "I", Cond.methodLink RX1 32 yX1_all, Cond.instanceMethod yX1_all, Cond.selects RX1 yX1_all yX1_all, Cond.code yX1_all cX1_all 1 (some .int), Cond.fieldLink RX1 15 "PoreField$Cell" "fluids" "[I", Cond.methodLink RX2 118 yX2_mayComeUp]
def wsX2_passMonth_r3 : List Cond := [Cond.instanceMethod yX2_mayComeUp, Cond.selects RX2 yX2_mayComeUp yX2_mayComeUp, Cond.code yX2_mayComeUp cX2_mayComeUp 3 (some .int), Cond.fieldLink RX2 23 "PoreField$Ground" "capacity" "[I", Cond.fieldLink RX2 31 "PoreField$Ground" "tankSize" "I", Cond.methodLink RX2 122 yX1_mostTimes, Cond.instanceMethod yX1_mostTimes, Cond.selects RX1 yX1_mostTimes yX1_mostTimes, Cond.code yX1_mostTimes cX1_mostTimes 3 (some .int), Cond.methodLink RX1 38 yX1_flow, Cond.instanceMethod yX1_flow, Cond.selects RX1 yX1_flow yX1_flow, Cond.code yX1_flow cX1_flow 2 (some .long), Cond.constantLong RX1 36 (2), Cond.methodLink RX2 131 yX1_moveOut, Cond.instanceMethod yX1_moveOut, Cond.selects RX1 yX1_moveOut yX1_moveOut, Cond.code yX1_moveOut cX1_moveOut 6 none, Cond.methodLink RX1 42 Lib.Math.min.name, Cond.methodLink RX1 48 Lib.MathLoose.min_long.x, Cond.static Lib.MathLoose.min_long.x, Cond.code Lib.MathLoose.min_long.x Lib.MathLoose.min_long.code 4 (some .long), Cond.methodLink RX2 81 yX2_putGasBack, Cond.instanceMethod yX2_putGasBack]
def wsX2_passMonth_r4 : List Cond := [Cond.selects RX2 yX2_putGasBack yX2_putGasBack, Cond.code yX2_putGasBack cX2_putGasBack 4 none, Cond.fieldLink RX2 139 "PoreField$Ground" "flared" "I", Cond.methodLink RX2 135 yX2_putIn, Cond.instanceMethod yX2_putIn, Cond.selects RX2 yX2_putIn yX2_putIn, Cond.code yX2_putIn cX2_putIn 4 none, Cond.fieldLink RX2 58 "PoreField$Cell" "fluids" "[I", Cond.methodLink RX2 84 yX2_putWaterIn, Cond.instanceMethod yX2_putWaterIn, Cond.selects RX2 yX2_putWaterIn yX2_putWaterIn, Cond.code yX2_putWaterIn cX2_putWaterIn 3 none, Cond.methodLink RX2 87 yX2_evenOut, Cond.instanceMethod yX2_evenOut, Cond.selects RX2 yX2_evenOut yX2_evenOut, Cond.code yX2_evenOut cX2_evenOut 7 none, Cond.static yX6_neighbour, Cond.initialized RX6, Cond.code yX6_neighbour cX6_neighbour 2 (some .int), Cond.methodLink RX2 61 yX1_isShut, Cond.instanceMethod yX1_isShut, Cond.selects RX1 yX1_isShut yX1_isShut, Cond.code yX1_isShut cX1_isShut 2 (some .boolean), Cond.fieldLink RX1 25 "PoreField$Cell" "isShutEast" "Z"]
def wsX2_passMonth_r5 : List Cond := [Cond.fieldLink RX1 29 "PoreField$Cell" "isShutSouth" "Z"]
def wsX2_passMonth : List Cond := .code yX2_passMonth cX2_passMonth 3 (some .int) :: ((wsX2_passMonth_r1 ++ (wsX2_passMonth_r2 ++ (wsX2_passMonth_r3 ++ (wsX2_passMonth_r4 ++ wsX2_passMonth_r5)))) ++ wsX20 ++ wsX40 ++ wsX10)
def wsX2_passMonths_r1 : List Cond := [Cond.methodLink RX2 65 yX2_passMonth, Cond.instanceMethod yX2_passMonth, Cond.selects RX2 yX2_passMonth yX2_passMonth, Cond.initialized RX2, Cond.code yX2_passMonth cX2_passMonth 3 (some .int), Cond.fieldLink RX2 46 "PoreField$Ground" "drilled" "I", Cond.fieldLink RX2 19 "PoreField$Ground" "wells" "[LPoreField$Well;", Cond.fieldLink RX2 72 "PoreField$Well" "kind" "I", Cond.fieldLink RX2 75 "PoreField$Well" "rank" "I", Cond.fieldLink RX2 34 "PoreField$Ground" "cameUp" "[I", Cond.methodLink RX2 69 yX2_startMonth, Cond.instanceMethod yX2_startMonth, Cond.selects RX2 yX2_startMonth yX2_startMonth, Cond.code yX2_startMonth cX2_startMonth 2 none, Cond.fieldLink RX2 91 "PoreField$Ground" "putBack" "I", Cond.fieldLink RX2 94 "PoreField$Ground" "waterIn" "I", Cond.fieldLink RX2 27 "PoreField$Ground" "permit" "I", Cond.fieldLink RX2 97 "PoreField$Ground" "gasOutlets" "I", Cond.fieldLink RX2 103 "PoreField$Well" "choke" "I", Cond.methodLink RX2 100 yX4_forgetMonth, Cond.instanceMethod yX4_forgetMonth, Cond.selects RX4 yX4_forgetMonth yX4_forgetMonth, Cond.initialized RX4, Cond.code yX4_forgetMonth cX4_forgetMonth 2 none]
def wsX2_passMonths_r2 : List Cond := [Cond.fieldLink RX4 15 "PoreField$Well" "gave" "[I", Cond.methodLink RX2 78 yX2_produce, Cond.instanceMethod yX2_produce, Cond.selects RX2 yX2_produce yX2_produce, Cond.code yX2_produce cX2_produce 6 none, Cond.fieldLink RX2 11 "PoreField$Ground" "cells" "[LPoreField$Cell;", Cond.fieldLink RX2 106 "PoreField$Well" "cell" "I", Cond.methodLink RX2 112 Lib.Math.max.name, Cond.static Lib.Math.max.name, Cond.initialized "java/lang/Math", Cond.code Lib.Math.max.name Lib.Math.max.code 2 (some .int), Cond.methodLink RX2 125 Lib.Math.min.name, Cond.static Lib.Math.min.name, Cond.code Lib.Math.min.name Lib.Math.min.code 2 (some .int), Cond.fieldLink RX2 128 "PoreField$Well" "gave" "[I", Cond.fieldLink RX2 55 "PoreField$Ground" "tankHas" "I", Cond.methodLink RX2 109 yX1_pressure, Cond.instanceMethod yX1_pressure, Cond.selects RX1 yX1_pressure yX1_pressure, Cond.initialized RX1, Cond.code yX1_pressure cX1_pressure 1 (some .int), Cond.fieldLink RX1 9 "PoreField$Cell" "room" "I", Cond.methodLink RX1 32 yX1_all, Cond.instanceMethod yX1_all]
def wsX2_passMonths_r3 : List Cond := [Cond.selects RX1 yX1_all yX1_all, Cond.code yX1_all cX1_all 1 (some .int), Cond.fieldLink RX1 15 "PoreField$Cell" "fluids" "[I", Cond.methodLink RX2 118 yX2_mayComeUp, Cond.instanceMethod yX2_mayComeUp, Cond.selects RX2 yX2_mayComeUp yX2_mayComeUp, Cond.code yX2_mayComeUp cX2_mayComeUp 3 (some .int), Cond.fieldLink RX2 23 "PoreField$Ground" "capacity" "[I", Cond.fieldLink RX2 31 "PoreField$Ground" "tankSize" "I", Cond.methodLink RX2 122 yX1_mostTimes, Cond.instanceMethod yX1_mostTimes, Cond.selects RX1 yX1_mostTimes yX1_mostTimes, Cond.code yX1_mostTimes cX1_mostTimes 3 (some .int), Cond.methodLink RX1 38 yX1_flow, Cond.instanceMethod yX1_flow, Cond.selects RX1 yX1_flow yX1_flow, Cond.code yX1_flow cX1_flow 2 (some .long), Cond.constantLong RX1 36 (2), Cond.methodLink RX2 131 yX1_moveOut, Cond.instanceMethod yX1_moveOut, Cond.selects RX1 yX1_moveOut yX1_moveOut, Cond.code yX1_moveOut cX1_moveOut 6 none, Cond.methodLink RX1 42 Lib.Math.min.name, Cond.methodLink RX1 48 Lib.MathLoose.min_long.x]
def wsX2_passMonths_r4 : List Cond := [Cond.static Lib.MathLoose.min_long.x, Cond.code Lib.MathLoose.min_long.x Lib.MathLoose.min_long.code 4 (some .long), Cond.methodLink RX2 81 yX2_putGasBack, Cond.instanceMethod yX2_putGasBack, Cond.selects RX2 yX2_putGasBack yX2_putGasBack, Cond.code yX2_putGasBack cX2_putGasBack 4 none, Cond.fieldLink RX2 139 "PoreField$Ground" "flared" "I", Cond.methodLink RX2 135 yX2_putIn, Cond.instanceMethod yX2_putIn, Cond.selects RX2 yX2_putIn yX2_putIn, Cond.code yX2_putIn cX2_putIn 4 none, Cond.fieldLink RX2 58 "PoreField$Cell" "fluids" "[I", Cond.methodLink RX2 84 yX2_putWaterIn, Cond.instanceMethod yX2_putWaterIn, Cond.selects RX2 yX2_putWaterIn yX2_putWaterIn, Cond.code yX2_putWaterIn cX2_putWaterIn 3 none, Cond.methodLink RX2 87 yX2_evenOut, Cond.instanceMethod yX2_evenOut, Cond.selects RX2 yX2_evenOut yX2_evenOut, Cond.code yX2_evenOut cX2_evenOut 7 none, Cond.static yX6_neighbour, Cond.initialized RX6, Cond.code yX6_neighbour cX6_neighbour 2 (some .int), Cond.methodLink RX2 61 yX1_isShut]
def wsX2_passMonths_r5 : List Cond := [Cond.instanceMethod yX1_isShut, Cond.selects RX1 yX1_isShut yX1_isShut, Cond.code yX1_isShut cX1_isShut 2 (some .boolean), Cond.fieldLink RX1 25 "PoreField$Cell" "isShutEast" "Z", Cond.fieldLink RX1 29 "PoreField$Cell" "isShutSouth" "Z"]
def wsX2_passMonths : List Cond := .code yX2_passMonths cX2_passMonths 4 (some .int) :: ((wsX2_passMonths_r1 ++ (wsX2_passMonths_r2 ++ (wsX2_passMonths_r3 ++ (wsX2_passMonths_r4 ++ wsX2_passMonths_r5)))) ++ wsX20 ++ wsX40 ++ wsX10)
def wsX3_init : List Cond := .code yX3_init cX3_init 1 none :: ([.methodLink RX3 1 objectInit, .instanceMethod objectInit, .code objectInit ⟨#[0xb1]⟩ 1 none])
def wsX4_hasProduced : List Cond := .code yX4_hasProduced cX4_hasProduced 1 (some .boolean) :: ([.fieldLink RX4 19 "PoreField$Well" "kind" "I", .fieldLink RX4 15 "PoreField$Well" "gave" "[I"] ++ wsX40)
def wsX5_init : List Cond := .code yX5_init cX5_init 1 none :: ([.methodLink RX5 3 objectInit, .instanceMethod objectInit, .code objectInit ⟨#[0xb1]⟩ 1 none, .arrayClass .int, .fieldLink RX5 9 "PoreField$WellLog" "test" "[I"] ++ wsX50)
def wsX6_init_r1 : List Cond := [Cond.methodLink RX6 1 objectInit, Cond.instanceMethod objectInit, Cond.code objectInit ⟨#[0xb1]⟩ 1 none, Cond.classLink RX6 7 RX2, Cond.instantiable RX2 12, Cond.initialized RX2, Cond.fieldLink RX6 10 "PoreField" "ground" "LPoreField$Ground;", Cond.fieldLink RX6 16 "PoreField" "trial" "LPoreField$Ground;", Cond.classLink RX6 19 RX5, Cond.fieldLink RX6 21 "PoreField" "logs" "[LPoreField$WellLog;", Cond.classLink RX6 25 RX3, Cond.fieldLink RX6 27 "PoreField" "partners" "[LPoreField$Partner;", Cond.classLink RX6 31 RX0, Cond.instantiable RX0 8, Cond.initialized RX0, Cond.fieldLink RX6 34 "PoreField" "booking" "LPoreField$Booking;", Cond.arrayClass .int, Cond.fieldLink RX6 38 "PoreField" "cameUpEver" "[I", Cond.fieldLink RX6 42 "PoreField" "price" "I", Cond.instantiable RX5 5, Cond.initialized RX5, Cond.instantiable RX3 4, Cond.initialized RX3, Cond.fieldLink RX6 48 "PoreField$Partner" "share" "I"]
def wsX6_init_r2 : List Cond := [Cond.methodLink RX6 9 yX2_init, Cond.instanceMethod yX2_init, Cond.code yX2_init cX2_init 2 none, Cond.methodLink RX2 3 objectInit, Cond.classLink RX2 9 RX1, Cond.fieldLink RX2 11 "PoreField$Ground" "cells" "[LPoreField$Cell;", Cond.classLink RX2 17 RX4, Cond.fieldLink RX2 19 "PoreField$Ground" "wells" "[LPoreField$Well;", Cond.fieldLink RX2 23 "PoreField$Ground" "capacity" "[I", Cond.fieldLink RX2 27 "PoreField$Ground" "permit" "I", Cond.fieldLink RX2 31 "PoreField$Ground" "tankSize" "I", Cond.fieldLink RX2 34 "PoreField$Ground" "cameUp" "[I", Cond.instantiable RX1 4, Cond.initialized RX1, Cond.instantiable RX4 5, Cond.initialized RX4, Cond.instanceMethod yX1_init, Cond.code yX1_init cX1_init 1 none, Cond.methodLink RX1 3 objectInit, Cond.fieldLink RX1 9 "PoreField$Cell" "room" "I", Cond.fieldLink RX1 15 "PoreField$Cell" "fluids" "[I", Cond.instanceMethod yX4_init, Cond.code yX4_init cX4_init 1 none, Cond.methodLink RX4 3 objectInit]
def wsX6_init_r3 : List Cond := [Cond.fieldLink RX4 9 "PoreField$Well" "rank" "I", Cond.fieldLink RX4 15 "PoreField$Well" "gave" "[I", Cond.instanceMethod yX0_init, Cond.code yX0_init cX0_init 1 none, Cond.methodLink RX0 3 objectInit, Cond.fieldLink RX0 9 "PoreField$Booking" "at" "I", Cond.instanceMethod yX5_init, Cond.code yX5_init cX5_init 1 none, Cond.methodLink RX5 3 objectInit, Cond.fieldLink RX5 9 "PoreField$WellLog" "test" "[I", Cond.instanceMethod yX3_init, Cond.code yX3_init cX3_init 1 none, Cond.methodLink RX3 1 objectInit]
def wsX6_init : List Cond := .code yX6_init cX6_init 2 none :: ((wsX6_init_r1 ++ (wsX6_init_r2 ++ wsX6_init_r3)) ++ wsX20 ++ wsX60 ++ wsX00 ++ wsX50 ++ wsX30 ++ wsX10 ++ wsX40)
def wsX6_needIndex : List Cond := .code yX6_needIndex cX6_needIndex 2 none :: ([.classLink RX6 273 "java/lang/IndexOutOfBoundsException", .initialized "java/lang/IndexOutOfBoundsException"] ++ (vx_atS RX6 277 "java/lang/IndexOutOfBoundsException" ["java/lang/RuntimeException", "java/lang/Exception"]).filter goodWord)
def wsX6_needWithin : List Cond := .code yX6_needWithin cX6_needWithin 3 none :: ([.classLink RX6 284 "java/lang/IllegalArgumentException", .initialized "java/lang/IllegalArgumentException"] ++ (vx_atS RX6 288 "java/lang/IllegalArgumentException" ["java/lang/RuntimeException", "java/lang/Exception"]).filter goodWord)
def wsX6_cell_r1 : List Cond := [Cond.fieldLink RX6 10 "PoreField" "ground" "LPoreField$Ground;", Cond.fieldLink RX6 59 "PoreField$Ground" "cells" "[LPoreField$Cell;", Cond.fieldLink RX6 63 "PoreField$Cell" "room" "I", Cond.fieldLink RX6 68 "PoreField$Cell" "fluids" "[I", Cond.methodLink RX6 51 yX6_needIndex, Cond.static yX6_needIndex, Cond.initialized RX6, Cond.code yX6_needIndex cX6_needIndex 2 none, Cond.classLink RX6 273 "java/lang/IndexOutOfBoundsException", Cond.initialized "java/lang/IndexOutOfBoundsException", Cond.methodLink RX6 55 yX6_needWithin, Cond.static yX6_needWithin, Cond.code yX6_needWithin cX6_needWithin 3 none, Cond.classLink RX6 284 "java/lang/IllegalArgumentException", Cond.initialized "java/lang/IllegalArgumentException", Cond.methodLink RX6 71 yX1_pressure, Cond.instanceMethod yX1_pressure, Cond.selects RX1 yX1_pressure yX1_pressure, Cond.initialized RX1, Cond.code yX1_pressure cX1_pressure 1 (some .int), Cond.fieldLink RX1 9 "PoreField$Cell" "room" "I", Cond.methodLink RX1 32 yX1_all, Cond.instanceMethod yX1_all, Cond.selects RX1 yX1_all yX1_all]
def wsX6_cell_r2 : List Cond := [Cond.code yX1_all cX1_all 1 (some .int), Cond.fieldLink RX1 15 "PoreField$Cell" "fluids" "[I"]
def wsX6_cell : List Cond := .code yX6_cell cX6_cell 7 (some .int) :: ((wsX6_cell_r1 ++ wsX6_cell_r2) ++ wsX60 ++ wsX20 ++ wsX10 ++ (vx_atS RX6 277 "java/lang/IndexOutOfBoundsException" ["java/lang/RuntimeException", "java/lang/Exception"]).filter goodWord ++ (vx_atS RX6 288 "java/lang/IllegalArgumentException" ["java/lang/RuntimeException", "java/lang/Exception"]).filter goodWord)
def wsX6_needNeighbour : List Cond := .code yX6_needNeighbour cX6_needNeighbour 2 none :: ([.classLink RX6 273 "java/lang/IndexOutOfBoundsException", .initialized "java/lang/IndexOutOfBoundsException", .methodLink RX6 51 yX6_needIndex, .static yX6_needIndex, .initialized RX6, .code yX6_needIndex cX6_needIndex 2 none, .methodLink RX6 278 yX6_neighbour, .static yX6_neighbour, .code yX6_neighbour cX6_neighbour 2 (some .int)] ++ (vx_atS RX6 277 "java/lang/IndexOutOfBoundsException" ["java/lang/RuntimeException", "java/lang/Exception"]).filter goodWord)
def wsX6_fault_r1 : List Cond := [Cond.fieldLink RX6 10 "PoreField" "ground" "LPoreField$Ground;", Cond.fieldLink RX6 59 "PoreField$Ground" "cells" "[LPoreField$Cell;", Cond.methodLink RX6 75 yX6_needNeighbour, Cond.static yX6_needNeighbour, Cond.initialized RX6, Cond.code yX6_needNeighbour cX6_needNeighbour 2 none, Cond.classLink RX6 273 "java/lang/IndexOutOfBoundsException", Cond.initialized "java/lang/IndexOutOfBoundsException", Cond.methodLink RX6 51 yX6_needIndex, Cond.static yX6_needIndex, Cond.code yX6_needIndex cX6_needIndex 2 none, Cond.methodLink RX6 278 yX6_neighbour, Cond.static yX6_neighbour, Cond.code yX6_neighbour cX6_neighbour 2 (some .int), Cond.methodLink RX6 79 yX1_isShut, Cond.instanceMethod yX1_isShut, Cond.selects RX1 yX1_isShut yX1_isShut, Cond.initialized RX1, Cond.code yX1_isShut cX1_isShut 2 (some .boolean), Cond.fieldLink RX1 25 "PoreField$Cell" "isShutEast" "Z", Cond.fieldLink RX1 29 "PoreField$Cell" "isShutSouth" "Z", Cond.methodLink RX6 83 yX1_shut, Cond.instanceMethod yX1_shut, Cond.selects RX1 yX1_shut yX1_shut]
def wsX6_fault_r2 : List Cond := [Cond.code yX1_shut cX1_shut 3 none]
def wsX6_fault : List Cond := .code yX6_fault cX6_fault 6 (some .boolean) :: ((wsX6_fault_r1 ++ wsX6_fault_r2) ++ wsX60 ++ wsX20 ++ wsX10 ++ (vx_atS RX6 277 "java/lang/IndexOutOfBoundsException" ["java/lang/RuntimeException", "java/lang/Exception"]).filter goodWord)
def wsX6_well : List Cond := .code yX6_well cX6_well 4 (some .int) :: ([.classLink RX6 90 "java/lang/IllegalStateException", .initialized "java/lang/IllegalStateException", .fieldLink RX6 10 "PoreField" "ground" "LPoreField$Ground;", .fieldLink RX6 87 "PoreField$Ground" "drilled" "I", .fieldLink RX6 97 "PoreField$Ground" "wells" "[LPoreField$Well;", .fieldLink RX6 101 "PoreField$Well" "kind" "I", .fieldLink RX6 106 "PoreField$Well" "cell" "I", .methodLink RX6 51 yX6_needIndex, .static yX6_needIndex, .initialized RX6, .code yX6_needIndex cX6_needIndex 2 none, .classLink RX6 273 "java/lang/IndexOutOfBoundsException", .initialized "java/lang/IndexOutOfBoundsException", .methodLink RX6 55 yX6_needWithin, .static yX6_needWithin, .code yX6_needWithin cX6_needWithin 3 none, .classLink RX6 284 "java/lang/IllegalArgumentException", .initialized "java/lang/IllegalArgumentException"] ++ wsX60 ++ wsX20 ++ wsX40 ++ (vx_atS RX6 94 "java/lang/IllegalStateException" ["java/lang/RuntimeException", "java/lang/Exception"]).filter goodWord ++ (vx_atS RX6 277 "java/lang/IndexOutOfBoundsException" ["java/lang/RuntimeException", "java/lang/Exception"]).filter goodWord ++ (vx_atS RX6 288 "java/lang/IllegalArgumentException" ["java/lang/RuntimeException", "java/lang/Exception"]).filter goodWord)
def wsX6_needOpen : List Cond := .code yX6_needOpen cX6_needOpen 2 none :: ([.classLink RX6 90 "java/lang/IllegalStateException", .initialized "java/lang/IllegalStateException", .fieldLink RX6 21 "PoreField" "logs" "[LPoreField$WellLog;", .fieldLink RX6 125 "PoreField$WellLog" "isPlugged" "Z"] ++ wsX60 ++ wsX50 ++ (vx_atS RX6 94 "java/lang/IllegalStateException" ["java/lang/RuntimeException", "java/lang/Exception"]).filter goodWord)
def wsX6_choke : List Cond := .code yX6_choke cX6_choke 4 (some .int) :: ([.fieldLink RX6 10 "PoreField" "ground" "LPoreField$Ground;", .fieldLink RX6 87 "PoreField$Ground" "drilled" "I", .fieldLink RX6 97 "PoreField$Ground" "wells" "[LPoreField$Well;", .fieldLink RX6 113 "PoreField$Well" "choke" "I", .methodLink RX6 51 yX6_needIndex, .static yX6_needIndex, .initialized RX6, .code yX6_needIndex cX6_needIndex 2 none, .classLink RX6 273 "java/lang/IndexOutOfBoundsException", .initialized "java/lang/IndexOutOfBoundsException", .methodLink RX6 55 yX6_needWithin, .static yX6_needWithin, .code yX6_needWithin cX6_needWithin 3 none, .classLink RX6 284 "java/lang/IllegalArgumentException", .initialized "java/lang/IllegalArgumentException", .methodLink RX6 109 yX6_needOpen, .instanceMethod yX6_needOpen, .selects RX6 yX6_needOpen yX6_needOpen, .code yX6_needOpen cX6_needOpen 2 none, .classLink RX6 90 "java/lang/IllegalStateException", .initialized "java/lang/IllegalStateException", .fieldLink RX6 21 "PoreField" "logs" "[LPoreField$WellLog;", .fieldLink RX6 125 "PoreField$WellLog" "isPlugged" "Z"] ++ wsX60 ++ wsX20 ++ wsX40 ++ wsX50 ++ (vx_atS RX6 277 "java/lang/IndexOutOfBoundsException" ["java/lang/RuntimeException", "java/lang/Exception"]).filter goodWord ++ (vx_atS RX6 288 "java/lang/IllegalArgumentException" ["java/lang/RuntimeException", "java/lang/Exception"]).filter goodWord ++ (vx_atS RX6 94 "java/lang/IllegalStateException" ["java/lang/RuntimeException", "java/lang/Exception"]).filter goodWord)
def wsX6_rank : List Cond := .code yX6_rank cX6_rank 4 (some .int) :: ([.fieldLink RX6 10 "PoreField" "ground" "LPoreField$Ground;", .fieldLink RX6 87 "PoreField$Ground" "drilled" "I", .fieldLink RX6 97 "PoreField$Ground" "wells" "[LPoreField$Well;", .fieldLink RX6 116 "PoreField$Well" "rank" "I", .methodLink RX6 51 yX6_needIndex, .static yX6_needIndex, .initialized RX6, .code yX6_needIndex cX6_needIndex 2 none, .classLink RX6 273 "java/lang/IndexOutOfBoundsException", .initialized "java/lang/IndexOutOfBoundsException", .methodLink RX6 55 yX6_needWithin, .static yX6_needWithin, .code yX6_needWithin cX6_needWithin 3 none, .classLink RX6 284 "java/lang/IllegalArgumentException", .initialized "java/lang/IllegalArgumentException"] ++ wsX60 ++ wsX20 ++ wsX40 ++ (vx_atS RX6 277 "java/lang/IndexOutOfBoundsException" ["java/lang/RuntimeException", "java/lang/Exception"]).filter goodWord ++ (vx_atS RX6 288 "java/lang/IllegalArgumentException" ["java/lang/RuntimeException", "java/lang/Exception"]).filter goodWord)
def wsX6_test : List Cond := .code yX6_test cX6_test 3 (some .boolean) :: ([.classLink RX6 90 "java/lang/IllegalStateException", .initialized "java/lang/IllegalStateException", .fieldLink RX6 10 "PoreField" "ground" "LPoreField$Ground;", .fieldLink RX6 87 "PoreField$Ground" "drilled" "I", .fieldLink RX6 97 "PoreField$Ground" "wells" "[LPoreField$Well;", .fieldLink RX6 101 "PoreField$Well" "kind" "I", .fieldLink RX6 21 "PoreField" "logs" "[LPoreField$WellLog;", .fieldLink RX6 121 "PoreField$WellLog" "isToTest" "Z", .methodLink RX6 51 yX6_needIndex, .static yX6_needIndex, .initialized RX6, .code yX6_needIndex cX6_needIndex 2 none, .classLink RX6 273 "java/lang/IndexOutOfBoundsException", .initialized "java/lang/IndexOutOfBoundsException", .methodLink RX6 109 yX6_needOpen, .instanceMethod yX6_needOpen, .selects RX6 yX6_needOpen yX6_needOpen, .code yX6_needOpen cX6_needOpen 2 none, .fieldLink RX6 125 "PoreField$WellLog" "isPlugged" "Z"] ++ wsX60 ++ wsX20 ++ wsX40 ++ wsX50 ++ (vx_atS RX6 94 "java/lang/IllegalStateException" ["java/lang/RuntimeException", "java/lang/Exception"]).filter goodWord ++ (vx_atS RX6 277 "java/lang/IndexOutOfBoundsException" ["java/lang/RuntimeException", "java/lang/Exception"]).filter goodWord)
def wsX6_plug : List Cond := .code yX6_plug cX6_plug 3 (some .int) :: ([.fieldLink RX6 10 "PoreField" "ground" "LPoreField$Ground;", .fieldLink RX6 87 "PoreField$Ground" "drilled" "I", .fieldLink RX6 97 "PoreField$Ground" "wells" "[LPoreField$Well;", .fieldLink RX6 113 "PoreField$Well" "choke" "I", .fieldLink RX6 21 "PoreField" "logs" "[LPoreField$WellLog;", .fieldLink RX6 125 "PoreField$WellLog" "isPlugged" "Z", .methodLink RX6 51 yX6_needIndex, .static yX6_needIndex, .initialized RX6, .code yX6_needIndex cX6_needIndex 2 none, .classLink RX6 273 "java/lang/IndexOutOfBoundsException", .initialized "java/lang/IndexOutOfBoundsException", .methodLink RX6 109 yX6_needOpen, .instanceMethod yX6_needOpen, .selects RX6 yX6_needOpen yX6_needOpen, .code yX6_needOpen cX6_needOpen 2 none, .classLink RX6 90 "java/lang/IllegalStateException", .initialized "java/lang/IllegalStateException"] ++ wsX60 ++ wsX20 ++ wsX40 ++ wsX50 ++ (vx_atS RX6 277 "java/lang/IndexOutOfBoundsException" ["java/lang/RuntimeException", "java/lang/Exception"]).filter goodWord ++ (vx_atS RX6 94 "java/lang/IllegalStateException" ["java/lang/RuntimeException", "java/lang/Exception"]).filter goodWord)
def wsX6_capacity : List Cond := .code yX6_capacity cX6_capacity 4 (some .int) :: ([.fieldLink RX6 10 "PoreField" "ground" "LPoreField$Ground;", .fieldLink RX6 128 "PoreField$Ground" "capacity" "[I", .methodLink RX6 51 yX6_needIndex, .static yX6_needIndex, .initialized RX6, .code yX6_needIndex cX6_needIndex 2 none, .classLink RX6 273 "java/lang/IndexOutOfBoundsException", .initialized "java/lang/IndexOutOfBoundsException", .methodLink RX6 55 yX6_needWithin, .static yX6_needWithin, .code yX6_needWithin cX6_needWithin 3 none, .classLink RX6 284 "java/lang/IllegalArgumentException", .initialized "java/lang/IllegalArgumentException"] ++ wsX60 ++ wsX20 ++ (vx_atS RX6 277 "java/lang/IndexOutOfBoundsException" ["java/lang/RuntimeException", "java/lang/Exception"]).filter goodWord ++ (vx_atS RX6 288 "java/lang/IllegalArgumentException" ["java/lang/RuntimeException", "java/lang/Exception"]).filter goodWord)
def wsX6_permit : List Cond := .code yX6_permit cX6_permit 3 (some .int) :: ([.fieldLink RX6 10 "PoreField" "ground" "LPoreField$Ground;", .fieldLink RX6 131 "PoreField$Ground" "permit" "I", .methodLink RX6 55 yX6_needWithin, .static yX6_needWithin, .initialized RX6, .code yX6_needWithin cX6_needWithin 3 none, .classLink RX6 284 "java/lang/IllegalArgumentException", .initialized "java/lang/IllegalArgumentException"] ++ wsX60 ++ wsX20 ++ (vx_atS RX6 288 "java/lang/IllegalArgumentException" ["java/lang/RuntimeException", "java/lang/Exception"]).filter goodWord)
def wsX6_countMonth : List Cond := .code yX6_countMonth cX6_countMonth 2 none :: ([.fieldLink RX6 38 "PoreField" "cameUpEver" "[I", .fieldLink RX6 10 "PoreField" "ground" "LPoreField$Ground;", .fieldLink RX6 151 "PoreField$Ground" "cameUp" "[I", .fieldLink RX6 223 "PoreField" "flaredEver" "I", .fieldLink RX6 291 "PoreField$Ground" "flared" "I", .fieldLink RX6 226 "PoreField" "putBackEver" "I", .fieldLink RX6 294 "PoreField$Ground" "putBack" "I", .fieldLink RX6 229 "PoreField" "waterInEver" "I", .fieldLink RX6 297 "PoreField$Ground" "waterIn" "I", .fieldLink RX6 87 "PoreField$Ground" "drilled" "I", .fieldLink RX6 97 "PoreField$Ground" "wells" "[LPoreField$Well;", .fieldLink RX6 101 "PoreField$Well" "kind" "I", .fieldLink RX6 21 "PoreField" "logs" "[LPoreField$WellLog;", .fieldLink RX6 211 "PoreField$WellLog" "oilEver" "I", .fieldLink RX6 208 "PoreField$Well" "gave" "[I"] ++ wsX60 ++ wsX20 ++ wsX40 ++ wsX50)
def wsX6_allocateOneByOne : List Cond := .code yX6_allocateOneByOne cX6_allocateOneByOne 5 none :: ([.fieldLink RX6 10 "PoreField" "ground" "LPoreField$Ground;", .fieldLink RX6 87 "PoreField$Ground" "drilled" "I", .fieldLink RX6 97 "PoreField$Ground" "wells" "[LPoreField$Well;", .fieldLink RX6 21 "PoreField" "logs" "[LPoreField$WellLog;", .fieldLink RX6 214 "PoreField$WellLog" "allocatedEver" "I", .methodLink RX6 300 yX4_hasProduced, .instanceMethod yX4_hasProduced, .selects RX4 yX4_hasProduced yX4_hasProduced, .initialized RX4, .code yX4_hasProduced cX4_hasProduced 1 (some .boolean), .fieldLink RX4 19 "PoreField$Well" "kind" "I", .fieldLink RX4 15 "PoreField$Well" "gave" "[I"] ++ wsX60 ++ wsX20 ++ wsX50 ++ wsX40)
def wsX6_allocate : List Cond := .code yX6_allocate cX6_allocate 6 none :: ([.fieldLink RX6 10 "PoreField" "ground" "LPoreField$Ground;", .fieldLink RX6 87 "PoreField$Ground" "drilled" "I", .fieldLink RX6 97 "PoreField$Ground" "wells" "[LPoreField$Well;", .fieldLink RX6 21 "PoreField" "logs" "[LPoreField$WellLog;", .fieldLink RX6 205 "PoreField$WellLog" "test" "[I", .fieldLink RX6 214 "PoreField$WellLog" "allocatedEver" "I", .methodLink RX6 300 yX4_hasProduced, .instanceMethod yX4_hasProduced, .selects RX4 yX4_hasProduced yX4_hasProduced, .initialized RX4, .code yX4_hasProduced cX4_hasProduced 1 (some .boolean), .fieldLink RX4 19 "PoreField$Well" "kind" "I", .fieldLink RX4 15 "PoreField$Well" "gave" "[I", .methodLink RX6 304 yX6_allocateOneByOne, .instanceMethod yX6_allocateOneByOne, .selects RX6 yX6_allocateOneByOne yX6_allocateOneByOne, .initialized RX6, .code yX6_allocateOneByOne cX6_allocateOneByOne 5 none] ++ wsX60 ++ wsX20 ++ wsX50 ++ wsX40)
def wsX6_keepTests : List Cond := .code yX6_keepTests cX6_keepTests 2 none :: ([.fieldLink RX6 10 "PoreField" "ground" "LPoreField$Ground;", .fieldLink RX6 87 "PoreField$Ground" "drilled" "I", .fieldLink RX6 21 "PoreField" "logs" "[LPoreField$WellLog;", .fieldLink RX6 121 "PoreField$WellLog" "isToTest" "Z", .fieldLink RX6 97 "PoreField$Ground" "wells" "[LPoreField$Well;", .fieldLink RX6 208 "PoreField$Well" "gave" "[I", .fieldLink RX6 205 "PoreField$WellLog" "test" "[I", .methodLink RX6 307 arraycopyName, .native arraycopyName, .static arraycopyName, .initialized "java/lang/System"] ++ wsX60 ++ wsX20 ++ wsX50 ++ wsX40)
def wsX6_entitle : List Cond := .code yX6_entitle cX6_entitle 5 none :: ([.fieldLink RX6 27 "PoreField" "partners" "[LPoreField$Partner;", .fieldLink RX6 48 "PoreField$Partner" "share" "I", .fieldLink RX6 217 "PoreField$Partner" "entitled" "I"] ++ wsX60 ++ wsX30)
def wsX6_pass_r1 : List Cond := [Cond.fieldLink RX6 10 "PoreField" "ground" "LPoreField$Ground;", Cond.fieldLink RX6 145 "PoreField" "now" "I", Cond.fieldLink RX6 151 "PoreField$Ground" "cameUp" "[I", Cond.methodLink RX6 55 yX6_needWithin, Cond.static yX6_needWithin, Cond.initialized RX6, Cond.code yX6_needWithin cX6_needWithin 3 none, Cond.classLink RX6 284 "java/lang/IllegalArgumentException", Cond.initialized "java/lang/IllegalArgumentException", Cond.methodLink RX6 142 yX2_passMonth, Cond.instanceMethod yX2_passMonth, Cond.selects RX2 yX2_passMonth yX2_passMonth, Cond.initialized RX2, Cond.code yX2_passMonth cX2_passMonth 3 (some .int), Cond.fieldLink RX2 46 "PoreField$Ground" "drilled" "I", Cond.fieldLink RX2 19 "PoreField$Ground" "wells" "[LPoreField$Well;", Cond.fieldLink RX2 72 "PoreField$Well" "kind" "I", Cond.fieldLink RX2 75 "PoreField$Well" "rank" "I", Cond.fieldLink RX2 34 "PoreField$Ground" "cameUp" "[I", Cond.methodLink RX2 69 yX2_startMonth, Cond.instanceMethod yX2_startMonth, Cond.selects RX2 yX2_startMonth yX2_startMonth, Cond.code yX2_startMonth cX2_startMonth 2 none, Cond.fieldLink RX2 91 "PoreField$Ground" "putBack" "I"]
def wsX6_pass_r2 : List Cond := [Cond.fieldLink RX2 94 "PoreField$Ground" "waterIn" "I", Cond.fieldLink RX2 27 "PoreField$Ground" "permit" "I", Cond.fieldLink RX2 97 "PoreField$Ground" "gasOutlets" "I", Cond.fieldLink RX2 103 "PoreField$Well" "choke" "I", Cond.methodLink RX2 100 yX4_forgetMonth, Cond.instanceMethod yX4_forgetMonth, Cond.selects RX4 yX4_forgetMonth yX4_forgetMonth, Cond.initialized RX4, Cond.code yX4_forgetMonth cX4_forgetMonth 2 none, Cond.fieldLink RX4 15 "PoreField$Well" "gave" "[I", Cond.methodLink RX2 78 yX2_produce, Cond.instanceMethod yX2_produce, Cond.selects RX2 yX2_produce yX2_produce, Cond.code yX2_produce cX2_produce 6 none, Cond.fieldLink RX2 11 "PoreField$Ground" "cells" "[LPoreField$Cell;", Cond.fieldLink RX2 106 "PoreField$Well" "cell" "I", Cond.methodLink RX2 112 Lib.Math.max.name, Cond.static Lib.Math.max.name, Cond.initialized "java/lang/Math", Cond.code Lib.Math.max.name Lib.Math.max.code 2 (some .int), Cond.methodLink RX2 125 Lib.Math.min.name, Cond.static Lib.Math.min.name, Cond.code Lib.Math.min.name Lib.Math.min.code 2 (some .int), Cond.fieldLink RX2 128 "PoreField$Well" "gave" "[I"]
def wsX6_pass_r3 : List Cond := [Cond.fieldLink RX2 55 "PoreField$Ground" "tankHas" "I", Cond.methodLink RX2 109 yX1_pressure, Cond.instanceMethod yX1_pressure, Cond.selects RX1 yX1_pressure yX1_pressure, Cond.initialized RX1, Cond.code yX1_pressure cX1_pressure 1 (some .int), Cond.fieldLink RX1 9 "PoreField$Cell" "room" "I", Cond.methodLink RX1 32 yX1_all, Cond.instanceMethod yX1_all, Cond.selects RX1 yX1_all yX1_all, Cond.code yX1_all cX1_all 1 (some .int), Cond.fieldLink RX1 15 "PoreField$Cell" "fluids" "[I", Cond.methodLink RX2 118 yX2_mayComeUp, Cond.instanceMethod yX2_mayComeUp, Cond.selects RX2 yX2_mayComeUp yX2_mayComeUp, Cond.code yX2_mayComeUp cX2_mayComeUp 3 (some .int), Cond.fieldLink RX2 23 "PoreField$Ground" "capacity" "[I", Cond.fieldLink RX2 31 "PoreField$Ground" "tankSize" "I", Cond.methodLink RX2 122 yX1_mostTimes, Cond.instanceMethod yX1_mostTimes, Cond.selects RX1 yX1_mostTimes yX1_mostTimes, Cond.code yX1_mostTimes cX1_mostTimes 3 (some .int), Cond.methodLink RX1 38 yX1_flow, Cond.instanceMethod yX1_flow]
def wsX6_pass_r4 : List Cond := [Cond.selects RX1 yX1_flow yX1_flow, Cond.code yX1_flow cX1_flow 2 (some .long), Cond.constantLong RX1 36 (2), Cond.methodLink RX2 131 yX1_moveOut, Cond.instanceMethod yX1_moveOut, Cond.selects RX1 yX1_moveOut yX1_moveOut, Cond.code yX1_moveOut cX1_moveOut 6 none, Cond.methodLink RX1 42 Lib.Math.min.name, Cond.methodLink RX1 48 Lib.MathLoose.min_long.x, Cond.static Lib.MathLoose.min_long.x, Cond.code Lib.MathLoose.min_long.x Lib.MathLoose.min_long.code 4 (some .long), Cond.methodLink RX2 81 yX2_putGasBack, Cond.instanceMethod yX2_putGasBack, Cond.selects RX2 yX2_putGasBack yX2_putGasBack, Cond.code yX2_putGasBack cX2_putGasBack 4 none, Cond.fieldLink RX2 139 "PoreField$Ground" "flared" "I", Cond.methodLink RX2 135 yX2_putIn, Cond.instanceMethod yX2_putIn, Cond.selects RX2 yX2_putIn yX2_putIn, Cond.code yX2_putIn cX2_putIn 4 none, Cond.fieldLink RX2 58 "PoreField$Cell" "fluids" "[I", Cond.methodLink RX2 84 yX2_putWaterIn, Cond.instanceMethod yX2_putWaterIn, Cond.selects RX2 yX2_putWaterIn yX2_putWaterIn]
def wsX6_pass_r5 : List Cond := [Cond.code yX2_putWaterIn cX2_putWaterIn 3 none, Cond.methodLink RX2 87 yX2_evenOut, Cond.instanceMethod yX2_evenOut, Cond.selects RX2 yX2_evenOut yX2_evenOut, Cond.code yX2_evenOut cX2_evenOut 7 none, Cond.static yX6_neighbour, Cond.code yX6_neighbour cX6_neighbour 2 (some .int), Cond.methodLink RX2 61 yX1_isShut, Cond.instanceMethod yX1_isShut, Cond.selects RX1 yX1_isShut yX1_isShut, Cond.code yX1_isShut cX1_isShut 2 (some .boolean), Cond.fieldLink RX1 25 "PoreField$Cell" "isShutEast" "Z", Cond.fieldLink RX1 29 "PoreField$Cell" "isShutSouth" "Z", Cond.methodLink RX6 148 yX6_countMonth, Cond.instanceMethod yX6_countMonth, Cond.selects RX6 yX6_countMonth yX6_countMonth, Cond.code yX6_countMonth cX6_countMonth 2 none, Cond.fieldLink RX6 38 "PoreField" "cameUpEver" "[I", Cond.fieldLink RX6 223 "PoreField" "flaredEver" "I", Cond.fieldLink RX6 291 "PoreField$Ground" "flared" "I", Cond.fieldLink RX6 226 "PoreField" "putBackEver" "I", Cond.fieldLink RX6 294 "PoreField$Ground" "putBack" "I", Cond.fieldLink RX6 229 "PoreField" "waterInEver" "I", Cond.fieldLink RX6 297 "PoreField$Ground" "waterIn" "I"]
def wsX6_pass_r6 : List Cond := [Cond.fieldLink RX6 87 "PoreField$Ground" "drilled" "I", Cond.fieldLink RX6 97 "PoreField$Ground" "wells" "[LPoreField$Well;", Cond.fieldLink RX6 101 "PoreField$Well" "kind" "I", Cond.fieldLink RX6 21 "PoreField" "logs" "[LPoreField$WellLog;", Cond.fieldLink RX6 211 "PoreField$WellLog" "oilEver" "I", Cond.fieldLink RX6 208 "PoreField$Well" "gave" "[I", Cond.methodLink RX6 154 yX6_allocate, Cond.instanceMethod yX6_allocate, Cond.selects RX6 yX6_allocate yX6_allocate, Cond.code yX6_allocate cX6_allocate 6 none, Cond.fieldLink RX6 205 "PoreField$WellLog" "test" "[I", Cond.fieldLink RX6 214 "PoreField$WellLog" "allocatedEver" "I", Cond.methodLink RX6 300 yX4_hasProduced, Cond.instanceMethod yX4_hasProduced, Cond.selects RX4 yX4_hasProduced yX4_hasProduced, Cond.code yX4_hasProduced cX4_hasProduced 1 (some .boolean), Cond.fieldLink RX4 19 "PoreField$Well" "kind" "I", Cond.methodLink RX6 304 yX6_allocateOneByOne, Cond.instanceMethod yX6_allocateOneByOne, Cond.selects RX6 yX6_allocateOneByOne yX6_allocateOneByOne, Cond.code yX6_allocateOneByOne cX6_allocateOneByOne 5 none, Cond.methodLink RX6 157 yX6_keepTests, Cond.instanceMethod yX6_keepTests, Cond.selects RX6 yX6_keepTests yX6_keepTests]
def wsX6_pass_r7 : List Cond := [Cond.code yX6_keepTests cX6_keepTests 2 none, Cond.fieldLink RX6 121 "PoreField$WellLog" "isToTest" "Z", Cond.methodLink RX6 307 arraycopyName, Cond.native arraycopyName, Cond.static arraycopyName, Cond.initialized "java/lang/System", Cond.methodLink RX6 160 yX6_entitle, Cond.instanceMethod yX6_entitle, Cond.selects RX6 yX6_entitle yX6_entitle, Cond.code yX6_entitle cX6_entitle 5 none, Cond.fieldLink RX6 27 "PoreField" "partners" "[LPoreField$Partner;", Cond.fieldLink RX6 48 "PoreField$Partner" "share" "I", Cond.fieldLink RX6 217 "PoreField$Partner" "entitled" "I"]
def wsX6_pass : List Cond := .code yX6_pass cX6_pass 4 (some .int) :: ((wsX6_pass_r1 ++ (wsX6_pass_r2 ++ (wsX6_pass_r3 ++ (wsX6_pass_r4 ++ (wsX6_pass_r5 ++ (wsX6_pass_r6 ++ wsX6_pass_r7)))))) ++ wsX60 ++ wsX20 ++ wsX40 ++ wsX10 ++ wsX50 ++ wsX30 ++ (vx_atS RX6 288 "java/lang/IllegalArgumentException" ["java/lang/RuntimeException", "java/lang/Exception"]).filter goodWord)
def wsX6_reservesOf_r1 : List Cond := [Cond.fieldLink RX6 16 "PoreField" "trial" "LPoreField$Ground;", Cond.fieldLink RX6 10 "PoreField" "ground" "LPoreField$Ground;", Cond.constant RX6 313 (1000000), Cond.fieldLink RX6 139 "PoreField$Ground" "tankSize" "I", Cond.fieldLink RX6 87 "PoreField$Ground" "drilled" "I", Cond.fieldLink RX6 97 "PoreField$Ground" "wells" "[LPoreField$Well;", Cond.fieldLink RX6 113 "PoreField$Well" "choke" "I", Cond.methodLink RX6 237 yX2_take, Cond.instanceMethod yX2_take, Cond.selects RX2 yX2_take yX2_take, Cond.initialized RX2, Cond.code yX2_take cX2_take 3 none, Cond.fieldLink RX2 11 "PoreField$Ground" "cells" "[LPoreField$Cell;", Cond.fieldLink RX2 19 "PoreField$Ground" "wells" "[LPoreField$Well;", Cond.fieldLink RX2 46 "PoreField$Ground" "drilled" "I", Cond.fieldLink RX2 23 "PoreField$Ground" "capacity" "[I", Cond.methodLink RX2 49 arraycopyName, Cond.native arraycopyName, Cond.static arraycopyName, Cond.initialized "java/lang/System", Cond.fieldLink RX2 27 "PoreField$Ground" "permit" "I", Cond.fieldLink RX2 31 "PoreField$Ground" "tankSize" "I", Cond.fieldLink RX2 55 "PoreField$Ground" "tankHas" "I", Cond.methodLink RX2 39 yX1_take]
def wsX6_reservesOf_r2 : List Cond := [Cond.instanceMethod yX1_take, Cond.selects RX1 yX1_take yX1_take, Cond.initialized RX1, Cond.code yX1_take cX1_take 2 none, Cond.fieldLink RX1 9 "PoreField$Cell" "room" "I", Cond.fieldLink RX1 15 "PoreField$Cell" "fluids" "[I", Cond.methodLink RX1 19 arraycopyName, Cond.fieldLink RX1 25 "PoreField$Cell" "isShutEast" "Z", Cond.fieldLink RX1 29 "PoreField$Cell" "isShutSouth" "Z", Cond.methodLink RX2 43 yX4_take, Cond.instanceMethod yX4_take, Cond.selects RX4 yX4_take yX4_take, Cond.initialized RX4, Cond.code yX4_take cX4_take 2 none, Cond.fieldLink RX4 19 "PoreField$Well" "kind" "I", Cond.fieldLink RX4 22 "PoreField$Well" "cell" "I", Cond.fieldLink RX4 25 "PoreField$Well" "choke" "I", Cond.fieldLink RX4 9 "PoreField$Well" "rank" "I", Cond.methodLink RX6 241 yX2_passMonths, Cond.instanceMethod yX2_passMonths, Cond.selects RX2 yX2_passMonths yX2_passMonths, Cond.code yX2_passMonths cX2_passMonths 4 (some .int), Cond.methodLink RX2 65 yX2_passMonth, Cond.instanceMethod yX2_passMonth]
def wsX6_reservesOf_r3 : List Cond := [Cond.selects RX2 yX2_passMonth yX2_passMonth, Cond.code yX2_passMonth cX2_passMonth 3 (some .int), Cond.fieldLink RX2 72 "PoreField$Well" "kind" "I", Cond.fieldLink RX2 75 "PoreField$Well" "rank" "I", Cond.fieldLink RX2 34 "PoreField$Ground" "cameUp" "[I", Cond.methodLink RX2 69 yX2_startMonth, Cond.instanceMethod yX2_startMonth, Cond.selects RX2 yX2_startMonth yX2_startMonth, Cond.code yX2_startMonth cX2_startMonth 2 none, Cond.fieldLink RX2 91 "PoreField$Ground" "putBack" "I", Cond.fieldLink RX2 94 "PoreField$Ground" "waterIn" "I", Cond.fieldLink RX2 97 "PoreField$Ground" "gasOutlets" "I", Cond.fieldLink RX2 103 "PoreField$Well" "choke" "I", Cond.methodLink RX2 100 yX4_forgetMonth, Cond.instanceMethod yX4_forgetMonth, Cond.selects RX4 yX4_forgetMonth yX4_forgetMonth, Cond.code yX4_forgetMonth cX4_forgetMonth 2 none, Cond.fieldLink RX4 15 "PoreField$Well" "gave" "[I", Cond.methodLink RX2 78 yX2_produce, Cond.instanceMethod yX2_produce, Cond.selects RX2 yX2_produce yX2_produce, Cond.code yX2_produce cX2_produce 6 none, Cond.fieldLink RX2 106 "PoreField$Well" "cell" "I", Cond.methodLink RX2 112 Lib.Math.max.name]
def wsX6_reservesOf_r4 : List Cond := [Cond.static Lib.Math.max.name, Cond.initialized "java/lang/Math", Cond.code Lib.Math.max.name Lib.Math.max.code 2 (some .int), Cond.methodLink RX2 125 Lib.Math.min.name, Cond.static Lib.Math.min.name, Cond.code Lib.Math.min.name Lib.Math.min.code 2 (some .int), Cond.fieldLink RX2 128 "PoreField$Well" "gave" "[I", Cond.methodLink RX2 109 yX1_pressure, Cond.instanceMethod yX1_pressure, Cond.selects RX1 yX1_pressure yX1_pressure, Cond.code yX1_pressure cX1_pressure 1 (some .int), Cond.methodLink RX1 32 yX1_all, Cond.instanceMethod yX1_all, Cond.selects RX1 yX1_all yX1_all, Cond.code yX1_all cX1_all 1 (some .int), Cond.methodLink RX2 118 yX2_mayComeUp, Cond.instanceMethod yX2_mayComeUp, Cond.selects RX2 yX2_mayComeUp yX2_mayComeUp, Cond.code yX2_mayComeUp cX2_mayComeUp 3 (some .int), Cond.methodLink RX2 122 yX1_mostTimes, Cond.instanceMethod yX1_mostTimes, Cond.selects RX1 yX1_mostTimes yX1_mostTimes, Cond.code yX1_mostTimes cX1_mostTimes 3 (some .int), Cond.methodLink RX1 38 yX1_flow]
def wsX6_reservesOf_r5 : List Cond := [Cond.instanceMethod yX1_flow, Cond.selects RX1 yX1_flow yX1_flow, Cond.code yX1_flow cX1_flow 2 (some .long), Cond.constantLong RX1 36 (2), Cond.methodLink RX2 131 yX1_moveOut, Cond.instanceMethod yX1_moveOut, Cond.selects RX1 yX1_moveOut yX1_moveOut, Cond.code yX1_moveOut cX1_moveOut 6 none, Cond.methodLink RX1 42 Lib.Math.min.name, Cond.methodLink RX1 48 Lib.MathLoose.min_long.x, Cond.static Lib.MathLoose.min_long.x, Cond.code Lib.MathLoose.min_long.x Lib.MathLoose.min_long.code 4 (some .long), Cond.methodLink RX2 81 yX2_putGasBack, Cond.instanceMethod yX2_putGasBack, Cond.selects RX2 yX2_putGasBack yX2_putGasBack, Cond.code yX2_putGasBack cX2_putGasBack 4 none, Cond.fieldLink RX2 139 "PoreField$Ground" "flared" "I", Cond.methodLink RX2 135 yX2_putIn, Cond.instanceMethod yX2_putIn, Cond.selects RX2 yX2_putIn yX2_putIn, Cond.code yX2_putIn cX2_putIn 4 none, Cond.fieldLink RX2 58 "PoreField$Cell" "fluids" "[I", Cond.methodLink RX2 84 yX2_putWaterIn, Cond.instanceMethod yX2_putWaterIn]
def wsX6_reservesOf_r6 : List Cond := [Cond.selects RX2 yX2_putWaterIn yX2_putWaterIn, Cond.code yX2_putWaterIn cX2_putWaterIn 3 none, Cond.methodLink RX2 87 yX2_evenOut, Cond.instanceMethod yX2_evenOut, Cond.selects RX2 yX2_evenOut yX2_evenOut, Cond.code yX2_evenOut cX2_evenOut 7 none, Cond.static yX6_neighbour, Cond.initialized RX6, Cond.code yX6_neighbour cX6_neighbour 2 (some .int), Cond.methodLink RX2 61 yX1_isShut, Cond.instanceMethod yX1_isShut, Cond.selects RX1 yX1_isShut yX1_isShut, Cond.code yX1_isShut cX1_isShut 2 (some .boolean)]
def wsX6_reservesOf : List Cond := .code yX6_reservesOf cX6_reservesOf 3 (some .int) :: ((wsX6_reservesOf_r1 ++ (wsX6_reservesOf_r2 ++ (wsX6_reservesOf_r3 ++ (wsX6_reservesOf_r4 ++ (wsX6_reservesOf_r5 ++ wsX6_reservesOf_r6))))) ++ wsX60 ++ wsX20 ++ wsX40 ++ wsX10)
def wsX6_book_r1 : List Cond := [Cond.fieldLink RX6 10 "PoreField" "ground" "LPoreField$Ground;", Cond.fieldLink RX6 87 "PoreField$Ground" "drilled" "I", Cond.fieldLink RX6 34 "PoreField" "booking" "LPoreField$Booking;", Cond.fieldLink RX6 182 "PoreField$Booking" "wells" "I", Cond.fieldLink RX6 184 "PoreField$Booking" "count" "I", Cond.fieldLink RX6 187 "PoreField$Booking" "oil" "I", Cond.fieldLink RX6 38 "PoreField" "cameUpEver" "[I", Cond.fieldLink RX6 190 "PoreField$Booking" "reserves" "I", Cond.fieldLink RX6 193 "PoreField$Booking" "revised" "I", Cond.fieldLink RX6 196 "PoreField$Booking" "produced" "I", Cond.fieldLink RX6 199 "PoreField$Booking" "fresh" "I", Cond.fieldLink RX6 145 "PoreField" "now" "I", Cond.fieldLink RX6 202 "PoreField$Booking" "at" "I", Cond.methodLink RX6 179 yX6_reservesOf, Cond.instanceMethod yX6_reservesOf, Cond.selects RX6 yX6_reservesOf yX6_reservesOf, Cond.initialized RX6, Cond.code yX6_reservesOf cX6_reservesOf 3 (some .int), Cond.fieldLink RX6 16 "PoreField" "trial" "LPoreField$Ground;", Cond.constant RX6 313 (1000000), Cond.fieldLink RX6 139 "PoreField$Ground" "tankSize" "I", Cond.fieldLink RX6 97 "PoreField$Ground" "wells" "[LPoreField$Well;", Cond.fieldLink RX6 113 "PoreField$Well" "choke" "I", Cond.methodLink RX6 237 yX2_take]
def wsX6_book_r2 : List Cond := [Cond.instanceMethod yX2_take, Cond.selects RX2 yX2_take yX2_take, Cond.initialized RX2, Cond.code yX2_take cX2_take 3 none, Cond.fieldLink RX2 11 "PoreField$Ground" "cells" "[LPoreField$Cell;", Cond.fieldLink RX2 19 "PoreField$Ground" "wells" "[LPoreField$Well;", Cond.fieldLink RX2 46 "PoreField$Ground" "drilled" "I", Cond.fieldLink RX2 23 "PoreField$Ground" "capacity" "[I", Cond.methodLink RX2 49 arraycopyName, Cond.native arraycopyName, Cond.static arraycopyName, Cond.initialized "java/lang/System", Cond.fieldLink RX2 27 "PoreField$Ground" "permit" "I", Cond.fieldLink RX2 31 "PoreField$Ground" "tankSize" "I", Cond.fieldLink RX2 55 "PoreField$Ground" "tankHas" "I", Cond.methodLink RX2 39 yX1_take, Cond.instanceMethod yX1_take, Cond.selects RX1 yX1_take yX1_take, Cond.initialized RX1, Cond.code yX1_take cX1_take 2 none, Cond.fieldLink RX1 9 "PoreField$Cell" "room" "I", Cond.fieldLink RX1 15 "PoreField$Cell" "fluids" "[I", Cond.methodLink RX1 19 arraycopyName, Cond.fieldLink RX1 25 "PoreField$Cell" "isShutEast" "Z"]
def wsX6_book_r3 : List Cond := [Cond.fieldLink RX1 29 "PoreField$Cell" "isShutSouth" "Z", Cond.methodLink RX2 43 yX4_take, Cond.instanceMethod yX4_take, Cond.selects RX4 yX4_take yX4_take, Cond.initialized RX4, Cond.code yX4_take cX4_take 2 none, Cond.fieldLink RX4 19 "PoreField$Well" "kind" "I", Cond.fieldLink RX4 22 "PoreField$Well" "cell" "I", Cond.fieldLink RX4 25 "PoreField$Well" "choke" "I", Cond.fieldLink RX4 9 "PoreField$Well" "rank" "I", Cond.methodLink RX6 241 yX2_passMonths, Cond.instanceMethod yX2_passMonths, Cond.selects RX2 yX2_passMonths yX2_passMonths, Cond.code yX2_passMonths cX2_passMonths 4 (some .int), Cond.methodLink RX2 65 yX2_passMonth, Cond.instanceMethod yX2_passMonth, Cond.selects RX2 yX2_passMonth yX2_passMonth, Cond.code yX2_passMonth cX2_passMonth 3 (some .int), Cond.fieldLink RX2 72 "PoreField$Well" "kind" "I", Cond.fieldLink RX2 75 "PoreField$Well" "rank" "I", Cond.fieldLink RX2 34 "PoreField$Ground" "cameUp" "[I", Cond.methodLink RX2 69 yX2_startMonth, Cond.instanceMethod yX2_startMonth, Cond.selects RX2 yX2_startMonth yX2_startMonth]
def wsX6_book_r4 : List Cond := [Cond.code yX2_startMonth cX2_startMonth 2 none, Cond.fieldLink RX2 91 "PoreField$Ground" "putBack" "I", Cond.fieldLink RX2 94 "PoreField$Ground" "waterIn" "I", Cond.fieldLink RX2 97 "PoreField$Ground" "gasOutlets" "I", Cond.fieldLink RX2 103 "PoreField$Well" "choke" "I", Cond.methodLink RX2 100 yX4_forgetMonth, Cond.instanceMethod yX4_forgetMonth, Cond.selects RX4 yX4_forgetMonth yX4_forgetMonth, Cond.code yX4_forgetMonth cX4_forgetMonth 2 none, Cond.fieldLink RX4 15 "PoreField$Well" "gave" "[I", Cond.methodLink RX2 78 yX2_produce, Cond.instanceMethod yX2_produce, Cond.selects RX2 yX2_produce yX2_produce, Cond.code yX2_produce cX2_produce 6 none, Cond.fieldLink RX2 106 "PoreField$Well" "cell" "I", Cond.methodLink RX2 112 Lib.Math.max.name, Cond.static Lib.Math.max.name, Cond.initialized "java/lang/Math", Cond.code Lib.Math.max.name Lib.Math.max.code 2 (some .int), Cond.methodLink RX2 125 Lib.Math.min.name, Cond.static Lib.Math.min.name, Cond.code Lib.Math.min.name Lib.Math.min.code 2 (some .int), Cond.fieldLink RX2 128 "PoreField$Well" "gave" "[I", Cond.methodLink RX2 109 yX1_pressure]
def wsX6_book_r5 : List Cond := [Cond.instanceMethod yX1_pressure, Cond.selects RX1 yX1_pressure yX1_pressure, Cond.code yX1_pressure cX1_pressure 1 (some .int), Cond.methodLink RX1 32 yX1_all, Cond.instanceMethod yX1_all, Cond.selects RX1 yX1_all yX1_all, Cond.code yX1_all cX1_all 1 (some .int), Cond.methodLink RX2 118 yX2_mayComeUp, Cond.instanceMethod yX2_mayComeUp, Cond.selects RX2 yX2_mayComeUp yX2_mayComeUp, Cond.code yX2_mayComeUp cX2_mayComeUp 3 (some .int), Cond.methodLink RX2 122 yX1_mostTimes, Cond.instanceMethod yX1_mostTimes, Cond.selects RX1 yX1_mostTimes yX1_mostTimes, Cond.code yX1_mostTimes cX1_mostTimes 3 (some .int), Cond.methodLink RX1 38 yX1_flow, Cond.instanceMethod yX1_flow, Cond.selects RX1 yX1_flow yX1_flow, Cond.code yX1_flow cX1_flow 2 (some .long), Cond.constantLong RX1 36 (2), Cond.methodLink RX2 131 yX1_moveOut, Cond.instanceMethod yX1_moveOut, Cond.selects RX1 yX1_moveOut yX1_moveOut, Cond.code yX1_moveOut cX1_moveOut 6 none]
def wsX6_book_r6 : List Cond := [Cond.methodLink RX1 42 Lib.Math.min.name, Cond.methodLink RX1 48 Lib.MathLoose.min_long.x, Cond.static Lib.MathLoose.min_long.x, Cond.code Lib.MathLoose.min_long.x Lib.MathLoose.min_long.code 4 (some .long), Cond.methodLink RX2 81 yX2_putGasBack, Cond.instanceMethod yX2_putGasBack, Cond.selects RX2 yX2_putGasBack yX2_putGasBack, Cond.code yX2_putGasBack cX2_putGasBack 4 none, Cond.fieldLink RX2 139 "PoreField$Ground" "flared" "I", Cond.methodLink RX2 135 yX2_putIn, Cond.instanceMethod yX2_putIn, Cond.selects RX2 yX2_putIn yX2_putIn, Cond.code yX2_putIn cX2_putIn 4 none, Cond.fieldLink RX2 58 "PoreField$Cell" "fluids" "[I", Cond.methodLink RX2 84 yX2_putWaterIn, Cond.instanceMethod yX2_putWaterIn, Cond.selects RX2 yX2_putWaterIn yX2_putWaterIn, Cond.code yX2_putWaterIn cX2_putWaterIn 3 none, Cond.methodLink RX2 87 yX2_evenOut, Cond.instanceMethod yX2_evenOut, Cond.selects RX2 yX2_evenOut yX2_evenOut, Cond.code yX2_evenOut cX2_evenOut 7 none, Cond.static yX6_neighbour, Cond.code yX6_neighbour cX6_neighbour 2 (some .int)]
def wsX6_book_r7 : List Cond := [Cond.methodLink RX2 61 yX1_isShut, Cond.instanceMethod yX1_isShut, Cond.selects RX1 yX1_isShut yX1_isShut, Cond.code yX1_isShut cX1_isShut 2 (some .boolean)]
def wsX6_book : List Cond := .code yX6_book cX6_book 4 (some .int) :: ((wsX6_book_r1 ++ (wsX6_book_r2 ++ (wsX6_book_r3 ++ (wsX6_book_r4 ++ (wsX6_book_r5 ++ (wsX6_book_r6 ++ wsX6_book_r7)))))) ++ wsX60 ++ wsX20 ++ wsX00 ++ wsX40 ++ wsX10)
def wsX6_ofCell_r1 : List Cond := [Cond.fieldLink RX6 10 "PoreField" "ground" "LPoreField$Ground;", Cond.fieldLink RX6 59 "PoreField$Ground" "cells" "[LPoreField$Cell;", Cond.fieldLink RX6 63 "PoreField$Cell" "room" "I", Cond.fieldLink RX6 68 "PoreField$Cell" "fluids" "[I", Cond.methodLink RX6 51 yX6_needIndex, Cond.static yX6_needIndex, Cond.initialized RX6, Cond.code yX6_needIndex cX6_needIndex 2 none, Cond.classLink RX6 273 "java/lang/IndexOutOfBoundsException", Cond.initialized "java/lang/IndexOutOfBoundsException", Cond.methodLink RX6 55 yX6_needWithin, Cond.static yX6_needWithin, Cond.code yX6_needWithin cX6_needWithin 3 none, Cond.classLink RX6 284 "java/lang/IllegalArgumentException", Cond.initialized "java/lang/IllegalArgumentException", Cond.methodLink RX6 71 yX1_pressure, Cond.instanceMethod yX1_pressure, Cond.selects RX1 yX1_pressure yX1_pressure, Cond.initialized RX1, Cond.code yX1_pressure cX1_pressure 1 (some .int), Cond.fieldLink RX1 9 "PoreField$Cell" "room" "I", Cond.methodLink RX1 32 yX1_all, Cond.instanceMethod yX1_all, Cond.selects RX1 yX1_all yX1_all]
def wsX6_ofCell_r2 : List Cond := [Cond.code yX1_all cX1_all 1 (some .int), Cond.fieldLink RX1 15 "PoreField$Cell" "fluids" "[I"]
def wsX6_ofCell : List Cond := .code yX6_ofCell cX6_ofCell 4 (some .int) :: ((wsX6_ofCell_r1 ++ wsX6_ofCell_r2) ++ wsX60 ++ wsX20 ++ wsX10 ++ (vx_atS RX6 277 "java/lang/IndexOutOfBoundsException" ["java/lang/RuntimeException", "java/lang/Exception"]).filter goodWord ++ (vx_atS RX6 288 "java/lang/IllegalArgumentException" ["java/lang/RuntimeException", "java/lang/Exception"]).filter goodWord)
def wsX6_ofWell_r1 : List Cond := [Cond.fieldLink RX6 10 "PoreField" "ground" "LPoreField$Ground;", Cond.fieldLink RX6 87 "PoreField$Ground" "drilled" "I", Cond.fieldLink RX6 97 "PoreField$Ground" "wells" "[LPoreField$Well;", Cond.fieldLink RX6 21 "PoreField" "logs" "[LPoreField$WellLog;", Cond.fieldLink RX6 101 "PoreField$Well" "kind" "I", Cond.fieldLink RX6 106 "PoreField$Well" "cell" "I", Cond.fieldLink RX6 113 "PoreField$Well" "choke" "I", Cond.fieldLink RX6 116 "PoreField$Well" "rank" "I", Cond.fieldLink RX6 125 "PoreField$WellLog" "isPlugged" "Z", Cond.fieldLink RX6 205 "PoreField$WellLog" "test" "[I", Cond.fieldLink RX6 208 "PoreField$Well" "gave" "[I", Cond.fieldLink RX6 211 "PoreField$WellLog" "oilEver" "I", Cond.fieldLink RX6 214 "PoreField$WellLog" "allocatedEver" "I", Cond.fieldLink RX6 121 "PoreField$WellLog" "isToTest" "Z", Cond.methodLink RX6 51 yX6_needIndex, Cond.static yX6_needIndex, Cond.initialized RX6, Cond.code yX6_needIndex cX6_needIndex 2 none, Cond.classLink RX6 273 "java/lang/IndexOutOfBoundsException", Cond.initialized "java/lang/IndexOutOfBoundsException", Cond.methodLink RX6 55 yX6_needWithin, Cond.static yX6_needWithin, Cond.code yX6_needWithin cX6_needWithin 3 none, Cond.classLink RX6 284 "java/lang/IllegalArgumentException"]
def wsX6_ofWell_r2 : List Cond := [Cond.initialized "java/lang/IllegalArgumentException"]
def wsX6_ofWell : List Cond := .code yX6_ofWell cX6_ofWell 5 (some .int) :: ((wsX6_ofWell_r1 ++ wsX6_ofWell_r2) ++ wsX60 ++ wsX20 ++ wsX40 ++ wsX50 ++ (vx_atS RX6 277 "java/lang/IndexOutOfBoundsException" ["java/lang/RuntimeException", "java/lang/Exception"]).filter goodWord ++ (vx_atS RX6 288 "java/lang/IllegalArgumentException" ["java/lang/RuntimeException", "java/lang/Exception"]).filter goodWord)
def wsX6_ofPartner : List Cond := .code yX6_ofPartner cX6_ofPartner 4 (some .int) :: ([.fieldLink RX6 27 "PoreField" "partners" "[LPoreField$Partner;", .fieldLink RX6 48 "PoreField$Partner" "share" "I", .fieldLink RX6 217 "PoreField$Partner" "entitled" "I", .fieldLink RX6 173 "PoreField$Partner" "lifted" "I", .fieldLink RX6 176 "PoreField$Partner" "money" "I", .methodLink RX6 51 yX6_needIndex, .static yX6_needIndex, .initialized RX6, .code yX6_needIndex cX6_needIndex 2 none, .classLink RX6 273 "java/lang/IndexOutOfBoundsException", .initialized "java/lang/IndexOutOfBoundsException", .methodLink RX6 55 yX6_needWithin, .static yX6_needWithin, .code yX6_needWithin cX6_needWithin 3 none, .classLink RX6 284 "java/lang/IllegalArgumentException", .initialized "java/lang/IllegalArgumentException"] ++ wsX60 ++ wsX30 ++ (vx_atS RX6 277 "java/lang/IndexOutOfBoundsException" ["java/lang/RuntimeException", "java/lang/Exception"]).filter goodWord ++ (vx_atS RX6 288 "java/lang/IllegalArgumentException" ["java/lang/RuntimeException", "java/lang/Exception"]).filter goodWord)
def wsX6_booked : List Cond := .code yX6_booked cX6_booked 2 (some .int) :: ([.fieldLink RX6 34 "PoreField" "booking" "LPoreField$Booking;", .fieldLink RX6 190 "PoreField$Booking" "reserves" "I", .fieldLink RX6 196 "PoreField$Booking" "produced" "I", .fieldLink RX6 199 "PoreField$Booking" "fresh" "I", .fieldLink RX6 193 "PoreField$Booking" "revised" "I", .fieldLink RX6 202 "PoreField$Booking" "at" "I", .methodLink RX6 55 yX6_needWithin, .static yX6_needWithin, .initialized RX6, .code yX6_needWithin cX6_needWithin 3 none, .classLink RX6 284 "java/lang/IllegalArgumentException", .initialized "java/lang/IllegalArgumentException"] ++ wsX60 ++ wsX00 ++ (vx_atS RX6 288 "java/lang/IllegalArgumentException" ["java/lang/RuntimeException", "java/lang/Exception"]).filter goodWord)
def wsX6_many_r1 : List Cond := [Cond.fieldLink RX6 145 "PoreField" "now" "I", Cond.fieldLink RX6 10 "PoreField" "ground" "LPoreField$Ground;", Cond.fieldLink RX6 87 "PoreField$Ground" "drilled" "I", Cond.fieldLink RX6 38 "PoreField" "cameUpEver" "[I", Cond.fieldLink RX6 134 "PoreField$Ground" "tankHas" "I", Cond.fieldLink RX6 223 "PoreField" "flaredEver" "I", Cond.fieldLink RX6 226 "PoreField" "putBackEver" "I", Cond.fieldLink RX6 229 "PoreField" "waterInEver" "I", Cond.fieldLink RX6 34 "PoreField" "booking" "LPoreField$Booking;", Cond.fieldLink RX6 184 "PoreField$Booking" "count" "I", Cond.methodLink RX6 55 yX6_needWithin, Cond.static yX6_needWithin, Cond.initialized RX6, Cond.code yX6_needWithin cX6_needWithin 3 none, Cond.classLink RX6 284 "java/lang/IllegalArgumentException", Cond.initialized "java/lang/IllegalArgumentException", Cond.methodLink RX6 220 yX2_inAllCells, Cond.instanceMethod yX2_inAllCells, Cond.selects RX2 yX2_inAllCells yX2_inAllCells, Cond.initialized RX2, Cond.code yX2_inAllCells cX2_inAllCells 4 (some .int), Cond.fieldLink RX2 11 "PoreField$Ground" "cells" "[LPoreField$Cell;", Cond.fieldLink RX2 58 "PoreField$Cell" "fluids" "[I", Cond.methodLink RX6 232 yX2_faults]
def wsX6_many_r2 : List Cond := [Cond.instanceMethod yX2_faults, Cond.selects RX2 yX2_faults yX2_faults, Cond.code yX2_faults cX2_faults 3 (some .int), Cond.methodLink RX2 61 yX1_isShut, Cond.instanceMethod yX1_isShut, Cond.selects RX1 yX1_isShut yX1_isShut, Cond.initialized RX1, Cond.code yX1_isShut cX1_isShut 2 (some .boolean), Cond.fieldLink RX1 25 "PoreField$Cell" "isShutEast" "Z", Cond.fieldLink RX1 29 "PoreField$Cell" "isShutSouth" "Z"]
def wsX6_many : List Cond := .code yX6_many cX6_many 2 (some .int) :: ((wsX6_many_r1 ++ wsX6_many_r2) ++ wsX60 ++ wsX20 ++ wsX00 ++ wsX10 ++ (vx_atS RX6 288 "java/lang/IllegalArgumentException" ["java/lang/RuntimeException", "java/lang/Exception"]).filter goodWord)
def wsX6_wouldGive_r1 : List Cond := [Cond.fieldLink RX6 16 "PoreField" "trial" "LPoreField$Ground;", Cond.fieldLink RX6 10 "PoreField" "ground" "LPoreField$Ground;", Cond.methodLink RX6 55 yX6_needWithin, Cond.static yX6_needWithin, Cond.initialized RX6, Cond.code yX6_needWithin cX6_needWithin 3 none, Cond.classLink RX6 284 "java/lang/IllegalArgumentException", Cond.initialized "java/lang/IllegalArgumentException", Cond.methodLink RX6 237 yX2_take, Cond.instanceMethod yX2_take, Cond.selects RX2 yX2_take yX2_take, Cond.initialized RX2, Cond.code yX2_take cX2_take 3 none, Cond.fieldLink RX2 11 "PoreField$Ground" "cells" "[LPoreField$Cell;", Cond.fieldLink RX2 19 "PoreField$Ground" "wells" "[LPoreField$Well;", Cond.fieldLink RX2 46 "PoreField$Ground" "drilled" "I", Cond.fieldLink RX2 23 "PoreField$Ground" "capacity" "[I", Cond.methodLink RX2 49 arraycopyName, Cond.native arraycopyName, Cond.static arraycopyName, Cond.initialized "java/lang/System", Cond.fieldLink RX2 27 "PoreField$Ground" "permit" "I", Cond.fieldLink RX2 31 "PoreField$Ground" "tankSize" "I", Cond.fieldLink RX2 55 "PoreField$Ground" "tankHas" "I"]
def wsX6_wouldGive_r2 : List Cond := [Cond.methodLink RX2 39 yX1_take, Cond.instanceMethod yX1_take, Cond.selects RX1 yX1_take yX1_take, Cond.initialized RX1, Cond.code yX1_take cX1_take 2 none, Cond.fieldLink RX1 9 "PoreField$Cell" "room" "I", Cond.fieldLink RX1 15 "PoreField$Cell" "fluids" "[I", Cond.methodLink RX1 19 arraycopyName, Cond.fieldLink RX1 25 "PoreField$Cell" "isShutEast" "Z", Cond.fieldLink RX1 29 "PoreField$Cell" "isShutSouth" "Z", Cond.methodLink RX2 43 yX4_take, Cond.instanceMethod yX4_take, Cond.selects RX4 yX4_take yX4_take, Cond.initialized RX4, Cond.code yX4_take cX4_take 2 none, Cond.fieldLink RX4 19 "PoreField$Well" "kind" "I", Cond.fieldLink RX4 22 "PoreField$Well" "cell" "I", Cond.fieldLink RX4 25 "PoreField$Well" "choke" "I", Cond.fieldLink RX4 9 "PoreField$Well" "rank" "I", Cond.methodLink RX6 241 yX2_passMonths, Cond.instanceMethod yX2_passMonths, Cond.selects RX2 yX2_passMonths yX2_passMonths, Cond.code yX2_passMonths cX2_passMonths 4 (some .int), Cond.methodLink RX2 65 yX2_passMonth]
def wsX6_wouldGive_r3 : List Cond := [Cond.instanceMethod yX2_passMonth, Cond.selects RX2 yX2_passMonth yX2_passMonth, Cond.code yX2_passMonth cX2_passMonth 3 (some .int), Cond.fieldLink RX2 72 "PoreField$Well" "kind" "I", Cond.fieldLink RX2 75 "PoreField$Well" "rank" "I", Cond.fieldLink RX2 34 "PoreField$Ground" "cameUp" "[I", Cond.methodLink RX2 69 yX2_startMonth, Cond.instanceMethod yX2_startMonth, Cond.selects RX2 yX2_startMonth yX2_startMonth, Cond.code yX2_startMonth cX2_startMonth 2 none, Cond.fieldLink RX2 91 "PoreField$Ground" "putBack" "I", Cond.fieldLink RX2 94 "PoreField$Ground" "waterIn" "I", Cond.fieldLink RX2 97 "PoreField$Ground" "gasOutlets" "I", Cond.fieldLink RX2 103 "PoreField$Well" "choke" "I", Cond.methodLink RX2 100 yX4_forgetMonth, Cond.instanceMethod yX4_forgetMonth, Cond.selects RX4 yX4_forgetMonth yX4_forgetMonth, Cond.code yX4_forgetMonth cX4_forgetMonth 2 none, Cond.fieldLink RX4 15 "PoreField$Well" "gave" "[I", Cond.methodLink RX2 78 yX2_produce, Cond.instanceMethod yX2_produce, Cond.selects RX2 yX2_produce yX2_produce, Cond.code yX2_produce cX2_produce 6 none, Cond.fieldLink RX2 106 "PoreField$Well" "cell" "I"]
def wsX6_wouldGive_r4 : List Cond := [Cond.methodLink RX2 112 Lib.Math.max.name, Cond.static Lib.Math.max.name, Cond.initialized "java/lang/Math", Cond.code Lib.Math.max.name Lib.Math.max.code 2 (some .int), Cond.methodLink RX2 125 Lib.Math.min.name, Cond.static Lib.Math.min.name, Cond.code Lib.Math.min.name Lib.Math.min.code 2 (some .int), Cond.fieldLink RX2 128 "PoreField$Well" "gave" "[I", Cond.methodLink RX2 109 yX1_pressure, Cond.instanceMethod yX1_pressure, Cond.selects RX1 yX1_pressure yX1_pressure, Cond.code yX1_pressure cX1_pressure 1 (some .int), Cond.methodLink RX1 32 yX1_all, Cond.instanceMethod yX1_all, Cond.selects RX1 yX1_all yX1_all, Cond.code yX1_all cX1_all 1 (some .int), Cond.methodLink RX2 118 yX2_mayComeUp, Cond.instanceMethod yX2_mayComeUp, Cond.selects RX2 yX2_mayComeUp yX2_mayComeUp, Cond.code yX2_mayComeUp cX2_mayComeUp 3 (some .int), Cond.methodLink RX2 122 yX1_mostTimes, Cond.instanceMethod yX1_mostTimes, Cond.selects RX1 yX1_mostTimes yX1_mostTimes, Cond.code yX1_mostTimes cX1_mostTimes 3 (some .int)]
def wsX6_wouldGive_r5 : List Cond := [Cond.methodLink RX1 38 yX1_flow, Cond.instanceMethod yX1_flow, Cond.selects RX1 yX1_flow yX1_flow, Cond.code yX1_flow cX1_flow 2 (some .long), Cond.constantLong RX1 36 (2), Cond.methodLink RX2 131 yX1_moveOut, Cond.instanceMethod yX1_moveOut, Cond.selects RX1 yX1_moveOut yX1_moveOut, Cond.code yX1_moveOut cX1_moveOut 6 none, Cond.methodLink RX1 42 Lib.Math.min.name, Cond.methodLink RX1 48 Lib.MathLoose.min_long.x, Cond.static Lib.MathLoose.min_long.x, Cond.code Lib.MathLoose.min_long.x Lib.MathLoose.min_long.code 4 (some .long), Cond.methodLink RX2 81 yX2_putGasBack, Cond.instanceMethod yX2_putGasBack, Cond.selects RX2 yX2_putGasBack yX2_putGasBack, Cond.code yX2_putGasBack cX2_putGasBack 4 none, Cond.fieldLink RX2 139 "PoreField$Ground" "flared" "I", Cond.methodLink RX2 135 yX2_putIn, Cond.instanceMethod yX2_putIn, Cond.selects RX2 yX2_putIn yX2_putIn, Cond.code yX2_putIn cX2_putIn 4 none, Cond.fieldLink RX2 58 "PoreField$Cell" "fluids" "[I", Cond.methodLink RX2 84 yX2_putWaterIn]
def wsX6_wouldGive_r6 : List Cond := [Cond.instanceMethod yX2_putWaterIn, Cond.selects RX2 yX2_putWaterIn yX2_putWaterIn, Cond.code yX2_putWaterIn cX2_putWaterIn 3 none, Cond.methodLink RX2 87 yX2_evenOut, Cond.instanceMethod yX2_evenOut, Cond.selects RX2 yX2_evenOut yX2_evenOut, Cond.code yX2_evenOut cX2_evenOut 7 none, Cond.static yX6_neighbour, Cond.code yX6_neighbour cX6_neighbour 2 (some .int), Cond.methodLink RX2 61 yX1_isShut, Cond.instanceMethod yX1_isShut, Cond.selects RX1 yX1_isShut yX1_isShut, Cond.code yX1_isShut cX1_isShut 2 (some .boolean)]
def wsX6_wouldGive : List Cond := .code yX6_wouldGive cX6_wouldGive 2 (some .int) :: ((wsX6_wouldGive_r1 ++ (wsX6_wouldGive_r2 ++ (wsX6_wouldGive_r3 ++ (wsX6_wouldGive_r4 ++ (wsX6_wouldGive_r5 ++ wsX6_wouldGive_r6))))) ++ wsX60 ++ wsX20 ++ wsX10 ++ wsX40 ++ (vx_atS RX6 288 "java/lang/IllegalArgumentException" ["java/lang/RuntimeException", "java/lang/Exception"]).filter goodWord)
def wsX6_bestChoke_r1 : List Cond := [Cond.fieldLink RX6 10 "PoreField" "ground" "LPoreField$Ground;", Cond.fieldLink RX6 87 "PoreField$Ground" "drilled" "I", Cond.fieldLink RX6 16 "PoreField" "trial" "LPoreField$Ground;", Cond.fieldLink RX6 97 "PoreField$Ground" "wells" "[LPoreField$Well;", Cond.fieldLink RX6 113 "PoreField$Well" "choke" "I", Cond.methodLink RX6 51 yX6_needIndex, Cond.static yX6_needIndex, Cond.initialized RX6, Cond.code yX6_needIndex cX6_needIndex 2 none, Cond.classLink RX6 273 "java/lang/IndexOutOfBoundsException", Cond.initialized "java/lang/IndexOutOfBoundsException", Cond.methodLink RX6 55 yX6_needWithin, Cond.static yX6_needWithin, Cond.code yX6_needWithin cX6_needWithin 3 none, Cond.classLink RX6 284 "java/lang/IllegalArgumentException", Cond.initialized "java/lang/IllegalArgumentException", Cond.methodLink RX6 109 yX6_needOpen, Cond.instanceMethod yX6_needOpen, Cond.selects RX6 yX6_needOpen yX6_needOpen, Cond.code yX6_needOpen cX6_needOpen 2 none, Cond.classLink RX6 90 "java/lang/IllegalStateException", Cond.initialized "java/lang/IllegalStateException", Cond.fieldLink RX6 21 "PoreField" "logs" "[LPoreField$WellLog;", Cond.fieldLink RX6 125 "PoreField$WellLog" "isPlugged" "Z"]
def wsX6_bestChoke_r2 : List Cond := [Cond.methodLink RX6 237 yX2_take, Cond.instanceMethod yX2_take, Cond.selects RX2 yX2_take yX2_take, Cond.initialized RX2, Cond.code yX2_take cX2_take 3 none, Cond.fieldLink RX2 11 "PoreField$Ground" "cells" "[LPoreField$Cell;", Cond.fieldLink RX2 19 "PoreField$Ground" "wells" "[LPoreField$Well;", Cond.fieldLink RX2 46 "PoreField$Ground" "drilled" "I", Cond.fieldLink RX2 23 "PoreField$Ground" "capacity" "[I", Cond.methodLink RX2 49 arraycopyName, Cond.native arraycopyName, Cond.static arraycopyName, Cond.initialized "java/lang/System", Cond.fieldLink RX2 27 "PoreField$Ground" "permit" "I", Cond.fieldLink RX2 31 "PoreField$Ground" "tankSize" "I", Cond.fieldLink RX2 55 "PoreField$Ground" "tankHas" "I", Cond.methodLink RX2 39 yX1_take, Cond.instanceMethod yX1_take, Cond.selects RX1 yX1_take yX1_take, Cond.initialized RX1, Cond.code yX1_take cX1_take 2 none, Cond.fieldLink RX1 9 "PoreField$Cell" "room" "I", Cond.fieldLink RX1 15 "PoreField$Cell" "fluids" "[I", Cond.methodLink RX1 19 arraycopyName]
def wsX6_bestChoke_r3 : List Cond := [Cond.fieldLink RX1 25 "PoreField$Cell" "isShutEast" "Z", Cond.fieldLink RX1 29 "PoreField$Cell" "isShutSouth" "Z", Cond.methodLink RX2 43 yX4_take, Cond.instanceMethod yX4_take, Cond.selects RX4 yX4_take yX4_take, Cond.initialized RX4, Cond.code yX4_take cX4_take 2 none, Cond.fieldLink RX4 19 "PoreField$Well" "kind" "I", Cond.fieldLink RX4 22 "PoreField$Well" "cell" "I", Cond.fieldLink RX4 25 "PoreField$Well" "choke" "I", Cond.fieldLink RX4 9 "PoreField$Well" "rank" "I", Cond.methodLink RX6 241 yX2_passMonths, Cond.instanceMethod yX2_passMonths, Cond.selects RX2 yX2_passMonths yX2_passMonths, Cond.code yX2_passMonths cX2_passMonths 4 (some .int), Cond.methodLink RX2 65 yX2_passMonth, Cond.instanceMethod yX2_passMonth, Cond.selects RX2 yX2_passMonth yX2_passMonth, Cond.code yX2_passMonth cX2_passMonth 3 (some .int), Cond.fieldLink RX2 72 "PoreField$Well" "kind" "I", Cond.fieldLink RX2 75 "PoreField$Well" "rank" "I", Cond.fieldLink RX2 34 "PoreField$Ground" "cameUp" "[I", Cond.methodLink RX2 69 yX2_startMonth, Cond.instanceMethod yX2_startMonth]
def wsX6_bestChoke_r4 : List Cond := [Cond.selects RX2 yX2_startMonth yX2_startMonth, Cond.code yX2_startMonth cX2_startMonth 2 none, Cond.fieldLink RX2 91 "PoreField$Ground" "putBack" "I", Cond.fieldLink RX2 94 "PoreField$Ground" "waterIn" "I", Cond.fieldLink RX2 97 "PoreField$Ground" "gasOutlets" "I", Cond.fieldLink RX2 103 "PoreField$Well" "choke" "I", Cond.methodLink RX2 100 yX4_forgetMonth, Cond.instanceMethod yX4_forgetMonth, Cond.selects RX4 yX4_forgetMonth yX4_forgetMonth, Cond.code yX4_forgetMonth cX4_forgetMonth 2 none, Cond.fieldLink RX4 15 "PoreField$Well" "gave" "[I", Cond.methodLink RX2 78 yX2_produce, Cond.instanceMethod yX2_produce, Cond.selects RX2 yX2_produce yX2_produce, Cond.code yX2_produce cX2_produce 6 none, Cond.fieldLink RX2 106 "PoreField$Well" "cell" "I", Cond.methodLink RX2 112 Lib.Math.max.name, Cond.static Lib.Math.max.name, Cond.initialized "java/lang/Math", Cond.code Lib.Math.max.name Lib.Math.max.code 2 (some .int), Cond.methodLink RX2 125 Lib.Math.min.name, Cond.static Lib.Math.min.name, Cond.code Lib.Math.min.name Lib.Math.min.code 2 (some .int), Cond.fieldLink RX2 128 "PoreField$Well" "gave" "[I"]
def wsX6_bestChoke_r5 : List Cond := [Cond.methodLink RX2 109 yX1_pressure, Cond.instanceMethod yX1_pressure, Cond.selects RX1 yX1_pressure yX1_pressure, Cond.code yX1_pressure cX1_pressure 1 (some .int), Cond.methodLink RX1 32 yX1_all, Cond.instanceMethod yX1_all, Cond.selects RX1 yX1_all yX1_all, Cond.code yX1_all cX1_all 1 (some .int), Cond.methodLink RX2 118 yX2_mayComeUp, Cond.instanceMethod yX2_mayComeUp, Cond.selects RX2 yX2_mayComeUp yX2_mayComeUp, Cond.code yX2_mayComeUp cX2_mayComeUp 3 (some .int), Cond.methodLink RX2 122 yX1_mostTimes, Cond.instanceMethod yX1_mostTimes, Cond.selects RX1 yX1_mostTimes yX1_mostTimes, Cond.code yX1_mostTimes cX1_mostTimes 3 (some .int), Cond.methodLink RX1 38 yX1_flow, Cond.instanceMethod yX1_flow, Cond.selects RX1 yX1_flow yX1_flow, Cond.code yX1_flow cX1_flow 2 (some .long), Cond.constantLong RX1 36 (2), Cond.methodLink RX2 131 yX1_moveOut, Cond.instanceMethod yX1_moveOut, Cond.selects RX1 yX1_moveOut yX1_moveOut]
def wsX6_bestChoke_r6 : List Cond := [Cond.code yX1_moveOut cX1_moveOut 6 none, Cond.methodLink RX1 42 Lib.Math.min.name, Cond.methodLink RX1 48 Lib.MathLoose.min_long.x, Cond.static Lib.MathLoose.min_long.x, Cond.code Lib.MathLoose.min_long.x Lib.MathLoose.min_long.code 4 (some .long), Cond.methodLink RX2 81 yX2_putGasBack, Cond.instanceMethod yX2_putGasBack, Cond.selects RX2 yX2_putGasBack yX2_putGasBack, Cond.code yX2_putGasBack cX2_putGasBack 4 none, Cond.fieldLink RX2 139 "PoreField$Ground" "flared" "I", Cond.methodLink RX2 135 yX2_putIn, Cond.instanceMethod yX2_putIn, Cond.selects RX2 yX2_putIn yX2_putIn, Cond.code yX2_putIn cX2_putIn 4 none, Cond.fieldLink RX2 58 "PoreField$Cell" "fluids" "[I", Cond.methodLink RX2 84 yX2_putWaterIn, Cond.instanceMethod yX2_putWaterIn, Cond.selects RX2 yX2_putWaterIn yX2_putWaterIn, Cond.code yX2_putWaterIn cX2_putWaterIn 3 none, Cond.methodLink RX2 87 yX2_evenOut, Cond.instanceMethod yX2_evenOut, Cond.selects RX2 yX2_evenOut yX2_evenOut, Cond.code yX2_evenOut cX2_evenOut 7 none, Cond.static yX6_neighbour]
def wsX6_bestChoke_r7 : List Cond := [Cond.code yX6_neighbour cX6_neighbour 2 (some .int), Cond.methodLink RX2 61 yX1_isShut, Cond.instanceMethod yX1_isShut, Cond.selects RX1 yX1_isShut yX1_isShut, Cond.code yX1_isShut cX1_isShut 2 (some .boolean)]
def wsX6_bestChoke : List Cond := .code yX6_bestChoke cX6_bestChoke 7 (some .int) :: ((wsX6_bestChoke_r1 ++ (wsX6_bestChoke_r2 ++ (wsX6_bestChoke_r3 ++ (wsX6_bestChoke_r4 ++ (wsX6_bestChoke_r5 ++ (wsX6_bestChoke_r6 ++ wsX6_bestChoke_r7)))))) ++ wsX60 ++ wsX20 ++ wsX40 ++ wsX50 ++ wsX10 ++ (vx_atS RX6 277 "java/lang/IndexOutOfBoundsException" ["java/lang/RuntimeException", "java/lang/Exception"]).filter goodWord ++ (vx_atS RX6 288 "java/lang/IllegalArgumentException" ["java/lang/RuntimeException", "java/lang/Exception"]).filter goodWord ++ (vx_atS RX6 94 "java/lang/IllegalStateException" ["java/lang/RuntimeException", "java/lang/Exception"]).filter goodWord)
def wsX6_keptBack_r1 : List Cond := [Cond.fieldLink RX6 10 "PoreField" "ground" "LPoreField$Ground;", Cond.fieldLink RX6 59 "PoreField$Ground" "cells" "[LPoreField$Cell;", Cond.fieldLink RX6 16 "PoreField" "trial" "LPoreField$Ground;", Cond.methodLink RX6 75 yX6_needNeighbour, Cond.static yX6_needNeighbour, Cond.initialized RX6, Cond.code yX6_needNeighbour cX6_needNeighbour 2 none, Cond.classLink RX6 273 "java/lang/IndexOutOfBoundsException", Cond.initialized "java/lang/IndexOutOfBoundsException", Cond.methodLink RX6 51 yX6_needIndex, Cond.static yX6_needIndex, Cond.code yX6_needIndex cX6_needIndex 2 none, Cond.methodLink RX6 278 yX6_neighbour, Cond.static yX6_neighbour, Cond.code yX6_neighbour cX6_neighbour 2 (some .int), Cond.methodLink RX6 55 yX6_needWithin, Cond.static yX6_needWithin, Cond.code yX6_needWithin cX6_needWithin 3 none, Cond.classLink RX6 284 "java/lang/IllegalArgumentException", Cond.initialized "java/lang/IllegalArgumentException", Cond.methodLink RX6 79 yX1_isShut, Cond.instanceMethod yX1_isShut, Cond.selects RX1 yX1_isShut yX1_isShut, Cond.initialized RX1]
def wsX6_keptBack_r2 : List Cond := [Cond.code yX1_isShut cX1_isShut 2 (some .boolean), Cond.fieldLink RX1 25 "PoreField$Cell" "isShutEast" "Z", Cond.fieldLink RX1 29 "PoreField$Cell" "isShutSouth" "Z", Cond.methodLink RX6 237 yX2_take, Cond.instanceMethod yX2_take, Cond.selects RX2 yX2_take yX2_take, Cond.initialized RX2, Cond.code yX2_take cX2_take 3 none, Cond.fieldLink RX2 11 "PoreField$Ground" "cells" "[LPoreField$Cell;", Cond.fieldLink RX2 19 "PoreField$Ground" "wells" "[LPoreField$Well;", Cond.fieldLink RX2 46 "PoreField$Ground" "drilled" "I", Cond.fieldLink RX2 23 "PoreField$Ground" "capacity" "[I", Cond.methodLink RX2 49 arraycopyName, Cond.native arraycopyName, Cond.static arraycopyName, Cond.initialized "java/lang/System", Cond.fieldLink RX2 27 "PoreField$Ground" "permit" "I", Cond.fieldLink RX2 31 "PoreField$Ground" "tankSize" "I", Cond.fieldLink RX2 55 "PoreField$Ground" "tankHas" "I", Cond.methodLink RX2 39 yX1_take, Cond.instanceMethod yX1_take, Cond.selects RX1 yX1_take yX1_take, Cond.code yX1_take cX1_take 2 none, Cond.fieldLink RX1 9 "PoreField$Cell" "room" "I"]
def wsX6_keptBack_r3 : List Cond := [Cond.fieldLink RX1 15 "PoreField$Cell" "fluids" "[I", Cond.methodLink RX1 19 arraycopyName, Cond.methodLink RX2 43 yX4_take, Cond.instanceMethod yX4_take, Cond.selects RX4 yX4_take yX4_take, Cond.initialized RX4, Cond.code yX4_take cX4_take 2 none, Cond.fieldLink RX4 19 "PoreField$Well" "kind" "I", Cond.fieldLink RX4 22 "PoreField$Well" "cell" "I", Cond.fieldLink RX4 25 "PoreField$Well" "choke" "I", Cond.fieldLink RX4 9 "PoreField$Well" "rank" "I", Cond.methodLink RX6 241 yX2_passMonths, Cond.instanceMethod yX2_passMonths, Cond.selects RX2 yX2_passMonths yX2_passMonths, Cond.code yX2_passMonths cX2_passMonths 4 (some .int), Cond.methodLink RX2 65 yX2_passMonth, Cond.instanceMethod yX2_passMonth, Cond.selects RX2 yX2_passMonth yX2_passMonth, Cond.code yX2_passMonth cX2_passMonth 3 (some .int), Cond.fieldLink RX2 72 "PoreField$Well" "kind" "I", Cond.fieldLink RX2 75 "PoreField$Well" "rank" "I", Cond.fieldLink RX2 34 "PoreField$Ground" "cameUp" "[I", Cond.methodLink RX2 69 yX2_startMonth, Cond.instanceMethod yX2_startMonth]
def wsX6_keptBack_r4 : List Cond := [Cond.selects RX2 yX2_startMonth yX2_startMonth, Cond.code yX2_startMonth cX2_startMonth 2 none, Cond.fieldLink RX2 91 "PoreField$Ground" "putBack" "I", Cond.fieldLink RX2 94 "PoreField$Ground" "waterIn" "I", Cond.fieldLink RX2 97 "PoreField$Ground" "gasOutlets" "I", Cond.fieldLink RX2 103 "PoreField$Well" "choke" "I", Cond.methodLink RX2 100 yX4_forgetMonth, Cond.instanceMethod yX4_forgetMonth, Cond.selects RX4 yX4_forgetMonth yX4_forgetMonth, Cond.code yX4_forgetMonth cX4_forgetMonth 2 none, Cond.fieldLink RX4 15 "PoreField$Well" "gave" "[I", Cond.methodLink RX2 78 yX2_produce, Cond.instanceMethod yX2_produce, Cond.selects RX2 yX2_produce yX2_produce, Cond.code yX2_produce cX2_produce 6 none, Cond.fieldLink RX2 106 "PoreField$Well" "cell" "I", Cond.methodLink RX2 112 Lib.Math.max.name, Cond.static Lib.Math.max.name, Cond.initialized "java/lang/Math", Cond.code Lib.Math.max.name Lib.Math.max.code 2 (some .int), Cond.methodLink RX2 125 Lib.Math.min.name, Cond.static Lib.Math.min.name, Cond.code Lib.Math.min.name Lib.Math.min.code 2 (some .int), Cond.fieldLink RX2 128 "PoreField$Well" "gave" "[I"]
def wsX6_keptBack_r5 : List Cond := [Cond.methodLink RX2 109 yX1_pressure, Cond.instanceMethod yX1_pressure, Cond.selects RX1 yX1_pressure yX1_pressure, Cond.code yX1_pressure cX1_pressure 1 (some .int), Cond.methodLink RX1 32 yX1_all, Cond.instanceMethod yX1_all, Cond.selects RX1 yX1_all yX1_all, Cond.code yX1_all cX1_all 1 (some .int), Cond.methodLink RX2 118 yX2_mayComeUp, Cond.instanceMethod yX2_mayComeUp, Cond.selects RX2 yX2_mayComeUp yX2_mayComeUp, Cond.code yX2_mayComeUp cX2_mayComeUp 3 (some .int), Cond.methodLink RX2 122 yX1_mostTimes, Cond.instanceMethod yX1_mostTimes, Cond.selects RX1 yX1_mostTimes yX1_mostTimes, Cond.code yX1_mostTimes cX1_mostTimes 3 (some .int), Cond.methodLink RX1 38 yX1_flow, Cond.instanceMethod yX1_flow, Cond.selects RX1 yX1_flow yX1_flow, Cond.code yX1_flow cX1_flow 2 (some .long), Cond.constantLong RX1 36 (2), Cond.methodLink RX2 131 yX1_moveOut, Cond.instanceMethod yX1_moveOut, Cond.selects RX1 yX1_moveOut yX1_moveOut]
def wsX6_keptBack_r6 : List Cond := [Cond.code yX1_moveOut cX1_moveOut 6 none, Cond.methodLink RX1 42 Lib.Math.min.name, Cond.methodLink RX1 48 Lib.MathLoose.min_long.x, Cond.static Lib.MathLoose.min_long.x, Cond.code Lib.MathLoose.min_long.x Lib.MathLoose.min_long.code 4 (some .long), Cond.methodLink RX2 81 yX2_putGasBack, Cond.instanceMethod yX2_putGasBack, Cond.selects RX2 yX2_putGasBack yX2_putGasBack, Cond.code yX2_putGasBack cX2_putGasBack 4 none, Cond.fieldLink RX2 139 "PoreField$Ground" "flared" "I", Cond.methodLink RX2 135 yX2_putIn, Cond.instanceMethod yX2_putIn, Cond.selects RX2 yX2_putIn yX2_putIn, Cond.code yX2_putIn cX2_putIn 4 none, Cond.fieldLink RX2 58 "PoreField$Cell" "fluids" "[I", Cond.methodLink RX2 84 yX2_putWaterIn, Cond.instanceMethod yX2_putWaterIn, Cond.selects RX2 yX2_putWaterIn yX2_putWaterIn, Cond.code yX2_putWaterIn cX2_putWaterIn 3 none, Cond.methodLink RX2 87 yX2_evenOut, Cond.instanceMethod yX2_evenOut, Cond.selects RX2 yX2_evenOut yX2_evenOut, Cond.code yX2_evenOut cX2_evenOut 7 none, Cond.methodLink RX2 61 yX1_isShut]
def wsX6_keptBack_r7 : List Cond := [Cond.methodLink RX6 83 yX1_shut, Cond.instanceMethod yX1_shut, Cond.selects RX1 yX1_shut yX1_shut, Cond.code yX1_shut cX1_shut 3 none]
def wsX6_keptBack : List Cond := .code yX6_keptBack cX6_keptBack 5 (some .int) :: ((wsX6_keptBack_r1 ++ (wsX6_keptBack_r2 ++ (wsX6_keptBack_r3 ++ (wsX6_keptBack_r4 ++ (wsX6_keptBack_r5 ++ (wsX6_keptBack_r6 ++ wsX6_keptBack_r7)))))) ++ wsX60 ++ wsX20 ++ wsX10 ++ wsX40 ++ (vx_atS RX6 277 "java/lang/IndexOutOfBoundsException" ["java/lang/RuntimeException", "java/lang/Exception"]).filter goodWord ++ (vx_atS RX6 288 "java/lang/IllegalArgumentException" ["java/lang/RuntimeException", "java/lang/Exception"]).filter goodWord)
def wsX6_mayLift : List Cond := .code yX6_mayLift cX6_mayLift 3 (some .int) :: ([.fieldLink RX6 27 "PoreField" "partners" "[LPoreField$Partner;", .fieldLink RX6 10 "PoreField" "ground" "LPoreField$Ground;", .fieldLink RX6 134 "PoreField$Ground" "tankHas" "I", .fieldLink RX6 217 "PoreField$Partner" "entitled" "I", .fieldLink RX6 173 "PoreField$Partner" "lifted" "I", .methodLink RX6 167 Lib.Math.min.name, .static Lib.Math.min.name, .initialized "java/lang/Math", .code Lib.Math.min.name Lib.Math.min.code 2 (some .int), .methodLink RX6 51 yX6_needIndex, .static yX6_needIndex, .initialized RX6, .code yX6_needIndex cX6_needIndex 2 none, .classLink RX6 273 "java/lang/IndexOutOfBoundsException", .initialized "java/lang/IndexOutOfBoundsException"] ++ wsX60 ++ wsX20 ++ wsX30 ++ (vx_atS RX6 277 "java/lang/IndexOutOfBoundsException" ["java/lang/RuntimeException", "java/lang/Exception"]).filter goodWord)
def wsX6_digest_r1 : List Cond := [Cond.constantLong RX6 244 (5406), Cond.constantLong RX6 246 (31), Cond.fieldLink RX6 10 "PoreField" "ground" "LPoreField$Ground;", Cond.fieldLink RX6 87 "PoreField$Ground" "drilled" "I", Cond.fieldLink RX6 21 "PoreField" "logs" "[LPoreField$WellLog;", Cond.fieldLink RX6 125 "PoreField$WellLog" "isPlugged" "Z", Cond.methodLink RX6 248 yX6_many, Cond.instanceMethod yX6_many, Cond.selects RX6 yX6_many yX6_many, Cond.initialized RX6, Cond.code yX6_many cX6_many 2 (some .int), Cond.fieldLink RX6 145 "PoreField" "now" "I", Cond.fieldLink RX6 38 "PoreField" "cameUpEver" "[I", Cond.fieldLink RX6 134 "PoreField$Ground" "tankHas" "I", Cond.fieldLink RX6 223 "PoreField" "flaredEver" "I", Cond.fieldLink RX6 226 "PoreField" "putBackEver" "I", Cond.fieldLink RX6 229 "PoreField" "waterInEver" "I", Cond.fieldLink RX6 34 "PoreField" "booking" "LPoreField$Booking;", Cond.fieldLink RX6 184 "PoreField$Booking" "count" "I", Cond.methodLink RX6 55 yX6_needWithin, Cond.static yX6_needWithin, Cond.code yX6_needWithin cX6_needWithin 3 none, Cond.classLink RX6 284 "java/lang/IllegalArgumentException", Cond.initialized "java/lang/IllegalArgumentException"]
def wsX6_digest_r2 : List Cond := [Cond.methodLink RX6 220 yX2_inAllCells, Cond.instanceMethod yX2_inAllCells, Cond.selects RX2 yX2_inAllCells yX2_inAllCells, Cond.initialized RX2, Cond.code yX2_inAllCells cX2_inAllCells 4 (some .int), Cond.fieldLink RX2 11 "PoreField$Ground" "cells" "[LPoreField$Cell;", Cond.fieldLink RX2 58 "PoreField$Cell" "fluids" "[I", Cond.methodLink RX6 232 yX2_faults, Cond.instanceMethod yX2_faults, Cond.selects RX2 yX2_faults yX2_faults, Cond.code yX2_faults cX2_faults 3 (some .int), Cond.methodLink RX2 61 yX1_isShut, Cond.instanceMethod yX1_isShut, Cond.selects RX1 yX1_isShut yX1_isShut, Cond.initialized RX1, Cond.code yX1_isShut cX1_isShut 2 (some .boolean), Cond.fieldLink RX1 25 "PoreField$Cell" "isShutEast" "Z", Cond.fieldLink RX1 29 "PoreField$Cell" "isShutSouth" "Z", Cond.methodLink RX6 251 yX6_ofCell, Cond.instanceMethod yX6_ofCell, Cond.selects RX6 yX6_ofCell yX6_ofCell, Cond.code yX6_ofCell cX6_ofCell 4 (some .int), Cond.fieldLink RX6 59 "PoreField$Ground" "cells" "[LPoreField$Cell;", Cond.fieldLink RX6 63 "PoreField$Cell" "room" "I"]
def wsX6_digest_r3 : List Cond := [Cond.fieldLink RX6 68 "PoreField$Cell" "fluids" "[I", Cond.methodLink RX6 51 yX6_needIndex, Cond.static yX6_needIndex, Cond.code yX6_needIndex cX6_needIndex 2 none, Cond.classLink RX6 273 "java/lang/IndexOutOfBoundsException", Cond.initialized "java/lang/IndexOutOfBoundsException", Cond.methodLink RX6 71 yX1_pressure, Cond.instanceMethod yX1_pressure, Cond.selects RX1 yX1_pressure yX1_pressure, Cond.code yX1_pressure cX1_pressure 1 (some .int), Cond.fieldLink RX1 9 "PoreField$Cell" "room" "I", Cond.methodLink RX1 32 yX1_all, Cond.instanceMethod yX1_all, Cond.selects RX1 yX1_all yX1_all, Cond.code yX1_all cX1_all 1 (some .int), Cond.fieldLink RX1 15 "PoreField$Cell" "fluids" "[I", Cond.methodLink RX6 254 yX6_ofWell, Cond.instanceMethod yX6_ofWell, Cond.selects RX6 yX6_ofWell yX6_ofWell, Cond.code yX6_ofWell cX6_ofWell 5 (some .int), Cond.fieldLink RX6 97 "PoreField$Ground" "wells" "[LPoreField$Well;", Cond.fieldLink RX6 101 "PoreField$Well" "kind" "I", Cond.fieldLink RX6 106 "PoreField$Well" "cell" "I", Cond.fieldLink RX6 113 "PoreField$Well" "choke" "I"]
def wsX6_digest_r4 : List Cond := [Cond.fieldLink RX6 116 "PoreField$Well" "rank" "I", Cond.fieldLink RX6 205 "PoreField$WellLog" "test" "[I", Cond.fieldLink RX6 208 "PoreField$Well" "gave" "[I", Cond.fieldLink RX6 211 "PoreField$WellLog" "oilEver" "I", Cond.fieldLink RX6 214 "PoreField$WellLog" "allocatedEver" "I", Cond.fieldLink RX6 121 "PoreField$WellLog" "isToTest" "Z", Cond.methodLink RX6 257 yX6_bestChoke, Cond.instanceMethod yX6_bestChoke, Cond.selects RX6 yX6_bestChoke yX6_bestChoke, Cond.code yX6_bestChoke cX6_bestChoke 7 (some .int), Cond.fieldLink RX6 16 "PoreField" "trial" "LPoreField$Ground;", Cond.methodLink RX6 109 yX6_needOpen, Cond.instanceMethod yX6_needOpen, Cond.selects RX6 yX6_needOpen yX6_needOpen, Cond.code yX6_needOpen cX6_needOpen 2 none, Cond.classLink RX6 90 "java/lang/IllegalStateException", Cond.initialized "java/lang/IllegalStateException", Cond.methodLink RX6 237 yX2_take, Cond.instanceMethod yX2_take, Cond.selects RX2 yX2_take yX2_take, Cond.code yX2_take cX2_take 3 none, Cond.fieldLink RX2 19 "PoreField$Ground" "wells" "[LPoreField$Well;", Cond.fieldLink RX2 46 "PoreField$Ground" "drilled" "I", Cond.fieldLink RX2 23 "PoreField$Ground" "capacity" "[I"]
def wsX6_digest_r5 : List Cond := [Cond.methodLink RX2 49 arraycopyName, Cond.native arraycopyName, Cond.static arraycopyName, Cond.initialized "java/lang/System", Cond.fieldLink RX2 27 "PoreField$Ground" "permit" "I", Cond.fieldLink RX2 31 "PoreField$Ground" "tankSize" "I", Cond.fieldLink RX2 55 "PoreField$Ground" "tankHas" "I", Cond.methodLink RX2 39 yX1_take, Cond.instanceMethod yX1_take, Cond.selects RX1 yX1_take yX1_take, Cond.code yX1_take cX1_take 2 none, Cond.methodLink RX1 19 arraycopyName, Cond.methodLink RX2 43 yX4_take, Cond.instanceMethod yX4_take, Cond.selects RX4 yX4_take yX4_take, Cond.initialized RX4, Cond.code yX4_take cX4_take 2 none, Cond.fieldLink RX4 19 "PoreField$Well" "kind" "I", Cond.fieldLink RX4 22 "PoreField$Well" "cell" "I", Cond.fieldLink RX4 25 "PoreField$Well" "choke" "I", Cond.fieldLink RX4 9 "PoreField$Well" "rank" "I", Cond.methodLink RX6 241 yX2_passMonths, Cond.instanceMethod yX2_passMonths, Cond.selects RX2 yX2_passMonths yX2_passMonths]
def wsX6_digest_r6 : List Cond := [Cond.code yX2_passMonths cX2_passMonths 4 (some .int), Cond.methodLink RX2 65 yX2_passMonth, Cond.instanceMethod yX2_passMonth, Cond.selects RX2 yX2_passMonth yX2_passMonth, Cond.code yX2_passMonth cX2_passMonth 3 (some .int), Cond.fieldLink RX2 72 "PoreField$Well" "kind" "I", Cond.fieldLink RX2 75 "PoreField$Well" "rank" "I", Cond.fieldLink RX2 34 "PoreField$Ground" "cameUp" "[I", Cond.methodLink RX2 69 yX2_startMonth, Cond.instanceMethod yX2_startMonth, Cond.selects RX2 yX2_startMonth yX2_startMonth, Cond.code yX2_startMonth cX2_startMonth 2 none, Cond.fieldLink RX2 91 "PoreField$Ground" "putBack" "I", Cond.fieldLink RX2 94 "PoreField$Ground" "waterIn" "I", Cond.fieldLink RX2 97 "PoreField$Ground" "gasOutlets" "I", Cond.fieldLink RX2 103 "PoreField$Well" "choke" "I", Cond.methodLink RX2 100 yX4_forgetMonth, Cond.instanceMethod yX4_forgetMonth, Cond.selects RX4 yX4_forgetMonth yX4_forgetMonth, Cond.code yX4_forgetMonth cX4_forgetMonth 2 none, Cond.fieldLink RX4 15 "PoreField$Well" "gave" "[I", Cond.methodLink RX2 78 yX2_produce, Cond.instanceMethod yX2_produce, Cond.selects RX2 yX2_produce yX2_produce]
def wsX6_digest_r7 : List Cond := [Cond.code yX2_produce cX2_produce 6 none, Cond.fieldLink RX2 106 "PoreField$Well" "cell" "I", Cond.methodLink RX2 112 Lib.Math.max.name, Cond.static Lib.Math.max.name, Cond.initialized "java/lang/Math", Cond.code Lib.Math.max.name Lib.Math.max.code 2 (some .int), Cond.methodLink RX2 125 Lib.Math.min.name, Cond.static Lib.Math.min.name, Cond.code Lib.Math.min.name Lib.Math.min.code 2 (some .int), Cond.fieldLink RX2 128 "PoreField$Well" "gave" "[I", Cond.methodLink RX2 109 yX1_pressure, Cond.methodLink RX2 118 yX2_mayComeUp, Cond.instanceMethod yX2_mayComeUp, Cond.selects RX2 yX2_mayComeUp yX2_mayComeUp, Cond.code yX2_mayComeUp cX2_mayComeUp 3 (some .int), Cond.methodLink RX2 122 yX1_mostTimes, Cond.instanceMethod yX1_mostTimes, Cond.selects RX1 yX1_mostTimes yX1_mostTimes, Cond.code yX1_mostTimes cX1_mostTimes 3 (some .int), Cond.methodLink RX1 38 yX1_flow, Cond.instanceMethod yX1_flow, Cond.selects RX1 yX1_flow yX1_flow, Cond.code yX1_flow cX1_flow 2 (some .long), Cond.constantLong RX1 36 (2)]
def wsX6_digest_r8 : List Cond := [Cond.methodLink RX2 131 yX1_moveOut, Cond.instanceMethod yX1_moveOut, Cond.selects RX1 yX1_moveOut yX1_moveOut, Cond.code yX1_moveOut cX1_moveOut 6 none, Cond.methodLink RX1 42 Lib.Math.min.name, Cond.methodLink RX1 48 Lib.MathLoose.min_long.x, Cond.static Lib.MathLoose.min_long.x, Cond.code Lib.MathLoose.min_long.x Lib.MathLoose.min_long.code 4 (some .long), Cond.methodLink RX2 81 yX2_putGasBack, Cond.instanceMethod yX2_putGasBack, Cond.selects RX2 yX2_putGasBack yX2_putGasBack, Cond.code yX2_putGasBack cX2_putGasBack 4 none, Cond.fieldLink RX2 139 "PoreField$Ground" "flared" "I", Cond.methodLink RX2 135 yX2_putIn, Cond.instanceMethod yX2_putIn, Cond.selects RX2 yX2_putIn yX2_putIn, Cond.code yX2_putIn cX2_putIn 4 none, Cond.methodLink RX2 84 yX2_putWaterIn, Cond.instanceMethod yX2_putWaterIn, Cond.selects RX2 yX2_putWaterIn yX2_putWaterIn, Cond.code yX2_putWaterIn cX2_putWaterIn 3 none, Cond.methodLink RX2 87 yX2_evenOut, Cond.instanceMethod yX2_evenOut, Cond.selects RX2 yX2_evenOut yX2_evenOut]
def wsX6_digest_r9 : List Cond := [Cond.code yX2_evenOut cX2_evenOut 7 none, Cond.static yX6_neighbour, Cond.code yX6_neighbour cX6_neighbour 2 (some .int), Cond.methodLink RX6 260 yX6_ofPartner, Cond.instanceMethod yX6_ofPartner, Cond.selects RX6 yX6_ofPartner yX6_ofPartner, Cond.code yX6_ofPartner cX6_ofPartner 4 (some .int), Cond.fieldLink RX6 27 "PoreField" "partners" "[LPoreField$Partner;", Cond.fieldLink RX6 48 "PoreField$Partner" "share" "I", Cond.fieldLink RX6 217 "PoreField$Partner" "entitled" "I", Cond.fieldLink RX6 173 "PoreField$Partner" "lifted" "I", Cond.fieldLink RX6 176 "PoreField$Partner" "money" "I", Cond.methodLink RX6 163 yX6_mayLift, Cond.instanceMethod yX6_mayLift, Cond.selects RX6 yX6_mayLift yX6_mayLift, Cond.code yX6_mayLift cX6_mayLift 3 (some .int), Cond.methodLink RX6 167 Lib.Math.min.name, Cond.methodLink RX6 263 yX6_booked, Cond.instanceMethod yX6_booked, Cond.selects RX6 yX6_booked yX6_booked, Cond.code yX6_booked cX6_booked 2 (some .int), Cond.fieldLink RX6 190 "PoreField$Booking" "reserves" "I", Cond.fieldLink RX6 196 "PoreField$Booking" "produced" "I", Cond.fieldLink RX6 199 "PoreField$Booking" "fresh" "I"]
def wsX6_digest_r10 : List Cond := [Cond.fieldLink RX6 193 "PoreField$Booking" "revised" "I", Cond.fieldLink RX6 202 "PoreField$Booking" "at" "I", Cond.methodLink RX6 266 yX6_wouldGive, Cond.instanceMethod yX6_wouldGive, Cond.selects RX6 yX6_wouldGive yX6_wouldGive, Cond.code yX6_wouldGive cX6_wouldGive 2 (some .int), Cond.methodLink RX6 269 yX6_keptBack, Cond.instanceMethod yX6_keptBack, Cond.selects RX6 yX6_keptBack yX6_keptBack, Cond.code yX6_keptBack cX6_keptBack 5 (some .int), Cond.methodLink RX6 75 yX6_needNeighbour, Cond.static yX6_needNeighbour, Cond.code yX6_needNeighbour cX6_needNeighbour 2 none, Cond.methodLink RX6 278 yX6_neighbour, Cond.methodLink RX6 79 yX1_isShut, Cond.methodLink RX6 83 yX1_shut, Cond.instanceMethod yX1_shut, Cond.selects RX1 yX1_shut yX1_shut, Cond.code yX1_shut cX1_shut 3 none]
def wsX6_digest : List Cond := .code yX6_digest cX6_digest 5 (some .long) :: ((wsX6_digest_r1 ++ (wsX6_digest_r2 ++ (wsX6_digest_r3 ++ (wsX6_digest_r4 ++ (wsX6_digest_r5 ++ (wsX6_digest_r6 ++ (wsX6_digest_r7 ++ (wsX6_digest_r8 ++ (wsX6_digest_r9 ++ wsX6_digest_r10))))))))) ++ wsX60 ++ wsX20 ++ wsX50 ++ wsX00 ++ wsX10 ++ wsX40 ++ wsX30 ++ (vx_atS RX6 288 "java/lang/IllegalArgumentException" ["java/lang/RuntimeException", "java/lang/Exception"]).filter goodWord ++ (vx_atS RX6 277 "java/lang/IndexOutOfBoundsException" ["java/lang/RuntimeException", "java/lang/Exception"]).filter goodWord ++ (vx_atS RX6 94 "java/lang/IllegalStateException" ["java/lang/RuntimeException", "java/lang/Exception"]).filter goodWord)
def wsX7_init_r1 : List Cond := [Cond.methodLink RX7 1 objectInit, Cond.instanceMethod objectInit, Cond.code objectInit ⟨#[0xb1]⟩ 1 none, Cond.classLink RX7 7 RX6, Cond.instantiable RX6 11, Cond.initialized RX6, Cond.fieldLink RX7 10 "PoreFieldLaw$Told" "m" "LPoreField;", Cond.arrayClass .int, Cond.fieldLink RX7 16 "PoreFieldLaw$Told" "rooms" "[I", Cond.classLink RX7 20 "[[I", Cond.fieldLink RX7 22 "PoreFieldLaw$Told" "has" "[[I", Cond.classLink RX7 25 "[[Z", Cond.arrayClass .boolean, Cond.fieldLink RX7 27 "PoreFieldLaw$Told" "isShut" "[[Z", Cond.classLink RX7 30 "[I", Cond.fieldLink RX7 31 "PoreFieldLaw$Told" "wells" "[[I", Cond.fieldLink RX7 34 "PoreFieldLaw$Told" "capacities" "[I", Cond.fieldLink RX7 37 "PoreFieldLaw$Told" "permit" "I", Cond.fieldLink RX7 41 "PoreFieldLaw$Told" "tank" "I", Cond.fieldLink RX7 44 "PoreFieldLaw$Told" "sums" "[I", Cond.fieldLink RX7 47 "PoreFieldLaw$Told" "s" "[I", Cond.fieldLink RX7 50 "PoreFieldLaw$Told" "draws" "I", Cond.methodLink RX7 9 yX6_init, Cond.instanceMethod yX6_init]
def wsX7_init_r2 : List Cond := [Cond.code yX6_init cX6_init 2 none, Cond.methodLink RX6 1 objectInit, Cond.classLink RX6 7 RX2, Cond.instantiable RX2 12, Cond.initialized RX2, Cond.fieldLink RX6 10 "PoreField" "ground" "LPoreField$Ground;", Cond.fieldLink RX6 16 "PoreField" "trial" "LPoreField$Ground;", Cond.classLink RX6 19 RX5, Cond.fieldLink RX6 21 "PoreField" "logs" "[LPoreField$WellLog;", Cond.classLink RX6 25 RX3, Cond.fieldLink RX6 27 "PoreField" "partners" "[LPoreField$Partner;", Cond.classLink RX6 31 RX0, Cond.instantiable RX0 8, Cond.initialized RX0, Cond.fieldLink RX6 34 "PoreField" "booking" "LPoreField$Booking;", Cond.fieldLink RX6 38 "PoreField" "cameUpEver" "[I", Cond.fieldLink RX6 42 "PoreField" "price" "I", Cond.instantiable RX5 5, Cond.initialized RX5, Cond.instantiable RX3 4, Cond.initialized RX3, Cond.fieldLink RX6 48 "PoreField$Partner" "share" "I", Cond.methodLink RX6 9 yX2_init, Cond.instanceMethod yX2_init]
def wsX7_init_r3 : List Cond := [Cond.code yX2_init cX2_init 2 none, Cond.methodLink RX2 3 objectInit, Cond.classLink RX2 9 RX1, Cond.fieldLink RX2 11 "PoreField$Ground" "cells" "[LPoreField$Cell;", Cond.classLink RX2 17 RX4, Cond.fieldLink RX2 19 "PoreField$Ground" "wells" "[LPoreField$Well;", Cond.fieldLink RX2 23 "PoreField$Ground" "capacity" "[I", Cond.fieldLink RX2 27 "PoreField$Ground" "permit" "I", Cond.fieldLink RX2 31 "PoreField$Ground" "tankSize" "I", Cond.fieldLink RX2 34 "PoreField$Ground" "cameUp" "[I", Cond.instantiable RX1 4, Cond.initialized RX1, Cond.instantiable RX4 5, Cond.initialized RX4, Cond.instanceMethod yX1_init, Cond.code yX1_init cX1_init 1 none, Cond.methodLink RX1 3 objectInit, Cond.fieldLink RX1 9 "PoreField$Cell" "room" "I", Cond.fieldLink RX1 15 "PoreField$Cell" "fluids" "[I", Cond.instanceMethod yX4_init, Cond.code yX4_init cX4_init 1 none, Cond.methodLink RX4 3 objectInit, Cond.fieldLink RX4 9 "PoreField$Well" "rank" "I", Cond.fieldLink RX4 15 "PoreField$Well" "gave" "[I"]
def wsX7_init_r4 : List Cond := [Cond.instanceMethod yX0_init, Cond.code yX0_init cX0_init 1 none, Cond.methodLink RX0 3 objectInit, Cond.fieldLink RX0 9 "PoreField$Booking" "at" "I", Cond.instanceMethod yX5_init, Cond.code yX5_init cX5_init 1 none, Cond.methodLink RX5 3 objectInit, Cond.fieldLink RX5 9 "PoreField$WellLog" "test" "[I", Cond.instanceMethod yX3_init, Cond.code yX3_init cX3_init 1 none, Cond.methodLink RX3 1 objectInit]
def wsX7_init : List Cond := .code yX7_init cX7_init 4 none :: ((wsX7_init_r1 ++ (wsX7_init_r2 ++ (wsX7_init_r3 ++ wsX7_init_r4))) ++ wsX60 ++ wsX70 ++ wsX20 ++ wsX00 ++ wsX50 ++ wsX30 ++ wsX10 ++ wsX40)
def wsL_cell : List Cond := .code yL_cell cL_cell 2 (some .int) :: ([.constant RL 8 (790386105)])
def wsL_below : List Cond := .code yL_below cL_below 2 (some .int) :: ([.constant RL 7 (2147483647)])
def wsX7_draw : List Cond := .code yX7_draw cX7_draw 3 (some .int) :: ([.fieldLink RX7 47 "PoreFieldLaw$Told" "s" "[I", .fieldLink RX7 50 "PoreFieldLaw$Told" "draws" "I", .static yL_cell, .initialized RL, .code yL_cell cL_cell 2 (some .int), .constant RL 8 (790386105), .static yL_below, .code yL_below cL_below 2 (some .int), .constant RL 7 (2147483647)] ++ wsX70)
def wsX7_all : List Cond := .code yX7_all cX7_all 2 (some .int) :: ([.fieldLink RX7 22 "PoreFieldLaw$Told" "has" "[[I"] ++ wsX70)
def wsX7_pressure : List Cond := .code yX7_pressure cX7_pressure 2 (some .int) :: ([.fieldLink RX7 16 "PoreFieldLaw$Told" "rooms" "[I", .methodLink RX7 86 yX7_all, .instanceMethod yX7_all, .selects RX7 yX7_all yX7_all, .initialized RX7, .code yX7_all cX7_all 2 (some .int), .fieldLink RX7 22 "PoreFieldLaw$Told" "has" "[[I"] ++ wsX70)
def wsX7_lay_r1 : List Cond := [Cond.arrayClass .int, Cond.fieldLink RX7 16 "PoreFieldLaw$Told" "rooms" "[I", Cond.fieldLink RX7 22 "PoreFieldLaw$Told" "has" "[[I", Cond.fieldLink RX7 10 "PoreFieldLaw$Told" "m" "LPoreField;", Cond.methodLink RX7 63 yX6_cell, Cond.instanceMethod yX6_cell, Cond.selects RX6 yX6_cell yX6_cell, Cond.initialized RX6, Cond.code yX6_cell cX6_cell 7 (some .int), Cond.fieldLink RX6 10 "PoreField" "ground" "LPoreField$Ground;", Cond.fieldLink RX6 59 "PoreField$Ground" "cells" "[LPoreField$Cell;", Cond.fieldLink RX6 63 "PoreField$Cell" "room" "I", Cond.fieldLink RX6 68 "PoreField$Cell" "fluids" "[I", Cond.methodLink RX6 51 yX6_needIndex, Cond.static yX6_needIndex, Cond.code yX6_needIndex cX6_needIndex 2 none, Cond.classLink RX6 273 "java/lang/IndexOutOfBoundsException", Cond.initialized "java/lang/IndexOutOfBoundsException", Cond.methodLink RX6 55 yX6_needWithin, Cond.static yX6_needWithin, Cond.code yX6_needWithin cX6_needWithin 3 none, Cond.classLink RX6 284 "java/lang/IllegalArgumentException", Cond.initialized "java/lang/IllegalArgumentException", Cond.methodLink RX6 71 yX1_pressure]
def wsX7_lay_r2 : List Cond := [Cond.instanceMethod yX1_pressure, Cond.selects RX1 yX1_pressure yX1_pressure, Cond.initialized RX1, Cond.code yX1_pressure cX1_pressure 1 (some .int), Cond.fieldLink RX1 9 "PoreField$Cell" "room" "I", Cond.methodLink RX1 32 yX1_all, Cond.instanceMethod yX1_all, Cond.selects RX1 yX1_all yX1_all, Cond.code yX1_all cX1_all 1 (some .int), Cond.fieldLink RX1 15 "PoreField$Cell" "fluids" "[I", Cond.methodLink RX7 66 yX7_pressure, Cond.instanceMethod yX7_pressure, Cond.selects RX7 yX7_pressure yX7_pressure, Cond.initialized RX7, Cond.code yX7_pressure cX7_pressure 2 (some .int), Cond.methodLink RX7 86 yX7_all, Cond.instanceMethod yX7_all, Cond.selects RX7 yX7_all yX7_all, Cond.code yX7_all cX7_all 2 (some .int)]
def wsX7_lay : List Cond := .code yX7_lay cX7_lay 7 (some .boolean) :: ((wsX7_lay_r1 ++ wsX7_lay_r2) ++ wsX70 ++ wsX60 ++ wsX20 ++ wsX10 ++ (vx_atS RX6 277 "java/lang/IndexOutOfBoundsException" ["java/lang/RuntimeException", "java/lang/Exception"]).filter goodWord ++ (vx_atS RX6 288 "java/lang/IllegalArgumentException" ["java/lang/RuntimeException", "java/lang/Exception"]).filter goodWord)
def wsX7_well_r1 : List Cond := [Cond.fieldLink RX7 31 "PoreFieldLaw$Told" "wells" "[[I", Cond.classLink RX7 30 "[I", Cond.methodLink RX7 70 arraycopyName, Cond.native arraycopyName, Cond.static arraycopyName, Cond.initialized "java/lang/System", Cond.arrayClass .int, Cond.fieldLink RX7 10 "PoreFieldLaw$Told" "m" "LPoreField;", Cond.methodLink RX7 76 yX6_well, Cond.instanceMethod yX6_well, Cond.selects RX6 yX6_well yX6_well, Cond.initialized RX6, Cond.code yX6_well cX6_well 4 (some .int), Cond.classLink RX6 90 "java/lang/IllegalStateException", Cond.initialized "java/lang/IllegalStateException", Cond.fieldLink RX6 10 "PoreField" "ground" "LPoreField$Ground;", Cond.fieldLink RX6 87 "PoreField$Ground" "drilled" "I", Cond.fieldLink RX6 97 "PoreField$Ground" "wells" "[LPoreField$Well;", Cond.fieldLink RX6 101 "PoreField$Well" "kind" "I", Cond.fieldLink RX6 106 "PoreField$Well" "cell" "I", Cond.methodLink RX6 51 yX6_needIndex, Cond.static yX6_needIndex, Cond.code yX6_needIndex cX6_needIndex 2 none, Cond.classLink RX6 273 "java/lang/IndexOutOfBoundsException"]
def wsX7_well_r2 : List Cond := [Cond.initialized "java/lang/IndexOutOfBoundsException", Cond.methodLink RX6 55 yX6_needWithin, Cond.static yX6_needWithin, Cond.code yX6_needWithin cX6_needWithin 3 none, Cond.classLink RX6 284 "java/lang/IllegalArgumentException", Cond.initialized "java/lang/IllegalArgumentException"]
def wsX7_well : List Cond := .code yX7_well cX7_well 5 (some .boolean) :: ((wsX7_well_r1 ++ wsX7_well_r2) ++ wsX70 ++ wsX60 ++ wsX20 ++ wsX40 ++ (vx_atS RX6 94 "java/lang/IllegalStateException" ["java/lang/RuntimeException", "java/lang/Exception"]).filter goodWord ++ (vx_atS RX6 277 "java/lang/IndexOutOfBoundsException" ["java/lang/RuntimeException", "java/lang/Exception"]).filter goodWord ++ (vx_atS RX6 288 "java/lang/IllegalArgumentException" ["java/lang/RuntimeException", "java/lang/Exception"]).filter goodWord)
def wsX7_choke_r1 : List Cond := [Cond.fieldLink RX7 31 "PoreFieldLaw$Told" "wells" "[[I", Cond.fieldLink RX7 10 "PoreFieldLaw$Told" "m" "LPoreField;", Cond.methodLink RX7 79 yX6_choke, Cond.instanceMethod yX6_choke, Cond.selects RX6 yX6_choke yX6_choke, Cond.initialized RX6, Cond.code yX6_choke cX6_choke 4 (some .int), Cond.fieldLink RX6 10 "PoreField" "ground" "LPoreField$Ground;", Cond.fieldLink RX6 87 "PoreField$Ground" "drilled" "I", Cond.fieldLink RX6 97 "PoreField$Ground" "wells" "[LPoreField$Well;", Cond.fieldLink RX6 113 "PoreField$Well" "choke" "I", Cond.methodLink RX6 51 yX6_needIndex, Cond.static yX6_needIndex, Cond.code yX6_needIndex cX6_needIndex 2 none, Cond.classLink RX6 273 "java/lang/IndexOutOfBoundsException", Cond.initialized "java/lang/IndexOutOfBoundsException", Cond.methodLink RX6 55 yX6_needWithin, Cond.static yX6_needWithin, Cond.code yX6_needWithin cX6_needWithin 3 none, Cond.classLink RX6 284 "java/lang/IllegalArgumentException", Cond.initialized "java/lang/IllegalArgumentException", Cond.methodLink RX6 109 yX6_needOpen, Cond.instanceMethod yX6_needOpen, Cond.selects RX6 yX6_needOpen yX6_needOpen]
def wsX7_choke_r2 : List Cond := [Cond.code yX6_needOpen cX6_needOpen 2 none, Cond.classLink RX6 90 "java/lang/IllegalStateException", Cond.initialized "java/lang/IllegalStateException", Cond.fieldLink RX6 21 "PoreField" "logs" "[LPoreField$WellLog;", Cond.fieldLink RX6 125 "PoreField$WellLog" "isPlugged" "Z"]
def wsX7_choke : List Cond := .code yX7_choke cX7_choke 4 (some .boolean) :: ((wsX7_choke_r1 ++ wsX7_choke_r2) ++ wsX70 ++ wsX60 ++ wsX20 ++ wsX40 ++ wsX50 ++ (vx_atS RX6 277 "java/lang/IndexOutOfBoundsException" ["java/lang/RuntimeException", "java/lang/Exception"]).filter goodWord ++ (vx_atS RX6 288 "java/lang/IllegalArgumentException" ["java/lang/RuntimeException", "java/lang/Exception"]).filter goodWord ++ (vx_atS RX6 94 "java/lang/IllegalStateException" ["java/lang/RuntimeException", "java/lang/Exception"]).filter goodWord)
def wsX7_fault_r1 : List Cond := [Cond.fieldLink RX7 27 "PoreFieldLaw$Told" "isShut" "[[Z", Cond.fieldLink RX7 10 "PoreFieldLaw$Told" "m" "LPoreField;", Cond.methodLink RX7 82 yX6_fault, Cond.instanceMethod yX6_fault, Cond.selects RX6 yX6_fault yX6_fault, Cond.initialized RX6, Cond.code yX6_fault cX6_fault 6 (some .boolean), Cond.fieldLink RX6 10 "PoreField" "ground" "LPoreField$Ground;", Cond.fieldLink RX6 59 "PoreField$Ground" "cells" "[LPoreField$Cell;", Cond.methodLink RX6 75 yX6_needNeighbour, Cond.static yX6_needNeighbour, Cond.code yX6_needNeighbour cX6_needNeighbour 2 none, Cond.classLink RX6 273 "java/lang/IndexOutOfBoundsException", Cond.initialized "java/lang/IndexOutOfBoundsException", Cond.methodLink RX6 51 yX6_needIndex, Cond.static yX6_needIndex, Cond.code yX6_needIndex cX6_needIndex 2 none, Cond.methodLink RX6 278 yX6_neighbour, Cond.static yX6_neighbour, Cond.code yX6_neighbour cX6_neighbour 2 (some .int), Cond.methodLink RX6 79 yX1_isShut, Cond.instanceMethod yX1_isShut, Cond.selects RX1 yX1_isShut yX1_isShut, Cond.initialized RX1]
def wsX7_fault_r2 : List Cond := [Cond.code yX1_isShut cX1_isShut 2 (some .boolean), Cond.fieldLink RX1 25 "PoreField$Cell" "isShutEast" "Z", Cond.fieldLink RX1 29 "PoreField$Cell" "isShutSouth" "Z", Cond.methodLink RX6 83 yX1_shut, Cond.instanceMethod yX1_shut, Cond.selects RX1 yX1_shut yX1_shut, Cond.code yX1_shut cX1_shut 3 none]
def wsX7_fault : List Cond := .code yX7_fault cX7_fault 5 (some .boolean) :: ((wsX7_fault_r1 ++ wsX7_fault_r2) ++ wsX70 ++ wsX60 ++ wsX20 ++ wsX10 ++ (vx_atS RX6 277 "java/lang/IndexOutOfBoundsException" ["java/lang/RuntimeException", "java/lang/Exception"]).filter goodWord)
def wsX7_found_r1 : List Cond := [Cond.methodLink RX7 123 yX7_draw, Cond.instanceMethod yX7_draw, Cond.selects RX7 yX7_draw yX7_draw, Cond.initialized RX7, Cond.code yX7_draw cX7_draw 3 (some .int), Cond.fieldLink RX7 47 "PoreFieldLaw$Told" "s" "[I", Cond.fieldLink RX7 50 "PoreFieldLaw$Told" "draws" "I", Cond.static yL_cell, Cond.initialized RL, Cond.code yL_cell cL_cell 2 (some .int), Cond.constant RL 8 (790386105), Cond.static yL_below, Cond.code yL_below cL_below 2 (some .int), Cond.constant RL 7 (2147483647), Cond.methodLink RX7 126 yX7_lay, Cond.instanceMethod yX7_lay, Cond.selects RX7 yX7_lay yX7_lay, Cond.code yX7_lay cX7_lay 7 (some .boolean), Cond.arrayClass .int, Cond.fieldLink RX7 16 "PoreFieldLaw$Told" "rooms" "[I", Cond.fieldLink RX7 22 "PoreFieldLaw$Told" "has" "[[I", Cond.fieldLink RX7 10 "PoreFieldLaw$Told" "m" "LPoreField;", Cond.methodLink RX7 63 yX6_cell, Cond.instanceMethod yX6_cell]
def wsX7_found_r2 : List Cond := [Cond.selects RX6 yX6_cell yX6_cell, Cond.initialized RX6, Cond.code yX6_cell cX6_cell 7 (some .int), Cond.fieldLink RX6 10 "PoreField" "ground" "LPoreField$Ground;", Cond.fieldLink RX6 59 "PoreField$Ground" "cells" "[LPoreField$Cell;", Cond.fieldLink RX6 63 "PoreField$Cell" "room" "I", Cond.fieldLink RX6 68 "PoreField$Cell" "fluids" "[I", Cond.methodLink RX6 51 yX6_needIndex, Cond.static yX6_needIndex, Cond.code yX6_needIndex cX6_needIndex 2 none, Cond.classLink RX6 273 "java/lang/IndexOutOfBoundsException", Cond.initialized "java/lang/IndexOutOfBoundsException", Cond.methodLink RX6 55 yX6_needWithin, Cond.static yX6_needWithin, Cond.code yX6_needWithin cX6_needWithin 3 none, Cond.classLink RX6 284 "java/lang/IllegalArgumentException", Cond.initialized "java/lang/IllegalArgumentException", Cond.methodLink RX6 71 yX1_pressure, Cond.instanceMethod yX1_pressure, Cond.selects RX1 yX1_pressure yX1_pressure, Cond.initialized RX1, Cond.code yX1_pressure cX1_pressure 1 (some .int), Cond.fieldLink RX1 9 "PoreField$Cell" "room" "I", Cond.methodLink RX1 32 yX1_all]
def wsX7_found_r3 : List Cond := [Cond.instanceMethod yX1_all, Cond.selects RX1 yX1_all yX1_all, Cond.code yX1_all cX1_all 1 (some .int), Cond.fieldLink RX1 15 "PoreField$Cell" "fluids" "[I", Cond.methodLink RX7 66 yX7_pressure, Cond.instanceMethod yX7_pressure, Cond.selects RX7 yX7_pressure yX7_pressure, Cond.code yX7_pressure cX7_pressure 2 (some .int), Cond.methodLink RX7 86 yX7_all, Cond.instanceMethod yX7_all, Cond.selects RX7 yX7_all yX7_all, Cond.code yX7_all cX7_all 2 (some .int), Cond.methodLink RX7 130 yX7_fault, Cond.instanceMethod yX7_fault, Cond.selects RX7 yX7_fault yX7_fault, Cond.code yX7_fault cX7_fault 5 (some .boolean), Cond.fieldLink RX7 27 "PoreFieldLaw$Told" "isShut" "[[Z", Cond.methodLink RX7 82 yX6_fault, Cond.instanceMethod yX6_fault, Cond.selects RX6 yX6_fault yX6_fault, Cond.code yX6_fault cX6_fault 6 (some .boolean), Cond.methodLink RX6 75 yX6_needNeighbour, Cond.static yX6_needNeighbour, Cond.code yX6_needNeighbour cX6_needNeighbour 2 none]
def wsX7_found_r4 : List Cond := [Cond.methodLink RX6 278 yX6_neighbour, Cond.static yX6_neighbour, Cond.code yX6_neighbour cX6_neighbour 2 (some .int), Cond.methodLink RX6 79 yX1_isShut, Cond.instanceMethod yX1_isShut, Cond.selects RX1 yX1_isShut yX1_isShut, Cond.code yX1_isShut cX1_isShut 2 (some .boolean), Cond.fieldLink RX1 25 "PoreField$Cell" "isShutEast" "Z", Cond.fieldLink RX1 29 "PoreField$Cell" "isShutSouth" "Z", Cond.methodLink RX6 83 yX1_shut, Cond.instanceMethod yX1_shut, Cond.selects RX1 yX1_shut yX1_shut, Cond.code yX1_shut cX1_shut 3 none, Cond.methodLink RX7 131 yX7_well, Cond.instanceMethod yX7_well, Cond.selects RX7 yX7_well yX7_well, Cond.code yX7_well cX7_well 5 (some .boolean), Cond.fieldLink RX7 31 "PoreFieldLaw$Told" "wells" "[[I", Cond.classLink RX7 30 "[I", Cond.methodLink RX7 70 arraycopyName, Cond.native arraycopyName, Cond.static arraycopyName, Cond.initialized "java/lang/System", Cond.methodLink RX7 76 yX6_well]
def wsX7_found_r5 : List Cond := [Cond.instanceMethod yX6_well, Cond.selects RX6 yX6_well yX6_well, Cond.code yX6_well cX6_well 4 (some .int), Cond.classLink RX6 90 "java/lang/IllegalStateException", Cond.initialized "java/lang/IllegalStateException", Cond.fieldLink RX6 87 "PoreField$Ground" "drilled" "I", Cond.fieldLink RX6 97 "PoreField$Ground" "wells" "[LPoreField$Well;", Cond.fieldLink RX6 101 "PoreField$Well" "kind" "I", Cond.fieldLink RX6 106 "PoreField$Well" "cell" "I", Cond.methodLink RX7 134 yX7_choke, Cond.instanceMethod yX7_choke, Cond.selects RX7 yX7_choke yX7_choke, Cond.code yX7_choke cX7_choke 4 (some .boolean), Cond.methodLink RX7 79 yX6_choke, Cond.instanceMethod yX6_choke, Cond.selects RX6 yX6_choke yX6_choke, Cond.code yX6_choke cX6_choke 4 (some .int), Cond.fieldLink RX6 113 "PoreField$Well" "choke" "I", Cond.methodLink RX6 109 yX6_needOpen, Cond.instanceMethod yX6_needOpen, Cond.selects RX6 yX6_needOpen yX6_needOpen, Cond.code yX6_needOpen cX6_needOpen 2 none, Cond.fieldLink RX6 21 "PoreField" "logs" "[LPoreField$WellLog;", Cond.fieldLink RX6 125 "PoreField$WellLog" "isPlugged" "Z"]
def wsX7_found : List Cond := .code yX7_found cX7_found 3 (some .boolean) :: ((wsX7_found_r1 ++ (wsX7_found_r2 ++ (wsX7_found_r3 ++ (wsX7_found_r4 ++ wsX7_found_r5)))) ++ wsX70 ++ wsX60 ++ wsX20 ++ wsX10 ++ wsX40 ++ wsX50 ++ (vx_atS RX6 277 "java/lang/IndexOutOfBoundsException" ["java/lang/RuntimeException", "java/lang/Exception"]).filter goodWord ++ (vx_atS RX6 288 "java/lang/IllegalArgumentException" ["java/lang/RuntimeException", "java/lang/Exception"]).filter goodWord ++ (vx_atS RX6 94 "java/lang/IllegalStateException" ["java/lang/RuntimeException", "java/lang/Exception"]).filter goodWord)
def wsX7_turn_r1 : List Cond := [Cond.fieldLink RX7 31 "PoreFieldLaw$Told" "wells" "[[I", Cond.fieldLink RX7 10 "PoreFieldLaw$Told" "m" "LPoreField;", Cond.fieldLink RX7 34 "PoreFieldLaw$Told" "capacities" "[I", Cond.fieldLink RX7 37 "PoreFieldLaw$Told" "permit" "I", Cond.methodLink RX7 123 yX7_draw, Cond.instanceMethod yX7_draw, Cond.selects RX7 yX7_draw yX7_draw, Cond.initialized RX7, Cond.code yX7_draw cX7_draw 3 (some .int), Cond.fieldLink RX7 47 "PoreFieldLaw$Told" "s" "[I", Cond.fieldLink RX7 50 "PoreFieldLaw$Told" "draws" "I", Cond.static yL_cell, Cond.initialized RL, Cond.code yL_cell cL_cell 2 (some .int), Cond.constant RL 8 (790386105), Cond.static yL_below, Cond.code yL_below cL_below 2 (some .int), Cond.constant RL 7 (2147483647), Cond.methodLink RX7 134 yX7_choke, Cond.instanceMethod yX7_choke, Cond.selects RX7 yX7_choke yX7_choke, Cond.code yX7_choke cX7_choke 4 (some .boolean), Cond.methodLink RX7 79 yX6_choke, Cond.instanceMethod yX6_choke]
def wsX7_turn_r2 : List Cond := [Cond.selects RX6 yX6_choke yX6_choke, Cond.initialized RX6, Cond.code yX6_choke cX6_choke 4 (some .int), Cond.fieldLink RX6 10 "PoreField" "ground" "LPoreField$Ground;", Cond.fieldLink RX6 87 "PoreField$Ground" "drilled" "I", Cond.fieldLink RX6 97 "PoreField$Ground" "wells" "[LPoreField$Well;", Cond.fieldLink RX6 113 "PoreField$Well" "choke" "I", Cond.methodLink RX6 51 yX6_needIndex, Cond.static yX6_needIndex, Cond.code yX6_needIndex cX6_needIndex 2 none, Cond.classLink RX6 273 "java/lang/IndexOutOfBoundsException", Cond.initialized "java/lang/IndexOutOfBoundsException", Cond.methodLink RX6 55 yX6_needWithin, Cond.static yX6_needWithin, Cond.code yX6_needWithin cX6_needWithin 3 none, Cond.classLink RX6 284 "java/lang/IllegalArgumentException", Cond.initialized "java/lang/IllegalArgumentException", Cond.methodLink RX6 109 yX6_needOpen, Cond.instanceMethod yX6_needOpen, Cond.selects RX6 yX6_needOpen yX6_needOpen, Cond.code yX6_needOpen cX6_needOpen 2 none, Cond.classLink RX6 90 "java/lang/IllegalStateException", Cond.initialized "java/lang/IllegalStateException", Cond.fieldLink RX6 21 "PoreField" "logs" "[LPoreField$WellLog;"]
def wsX7_turn_r3 : List Cond := [Cond.fieldLink RX6 125 "PoreField$WellLog" "isPlugged" "Z", Cond.methodLink RX7 136 yX6_rank, Cond.instanceMethod yX6_rank, Cond.selects RX6 yX6_rank yX6_rank, Cond.code yX6_rank cX6_rank 4 (some .int), Cond.fieldLink RX6 116 "PoreField$Well" "rank" "I", Cond.methodLink RX7 139 yX6_capacity, Cond.instanceMethod yX6_capacity, Cond.selects RX6 yX6_capacity yX6_capacity, Cond.code yX6_capacity cX6_capacity 4 (some .int), Cond.fieldLink RX6 128 "PoreField$Ground" "capacity" "[I", Cond.methodLink RX7 142 yX6_permit, Cond.instanceMethod yX6_permit, Cond.selects RX6 yX6_permit yX6_permit, Cond.code yX6_permit cX6_permit 3 (some .int), Cond.fieldLink RX6 131 "PoreField$Ground" "permit" "I", Cond.methodLink RX7 130 yX7_fault, Cond.instanceMethod yX7_fault, Cond.selects RX7 yX7_fault yX7_fault, Cond.code yX7_fault cX7_fault 5 (some .boolean), Cond.fieldLink RX7 27 "PoreFieldLaw$Told" "isShut" "[[Z", Cond.methodLink RX7 82 yX6_fault, Cond.instanceMethod yX6_fault, Cond.selects RX6 yX6_fault yX6_fault]
def wsX7_turn_r4 : List Cond := [Cond.code yX6_fault cX6_fault 6 (some .boolean), Cond.fieldLink RX6 59 "PoreField$Ground" "cells" "[LPoreField$Cell;", Cond.methodLink RX6 75 yX6_needNeighbour, Cond.static yX6_needNeighbour, Cond.code yX6_needNeighbour cX6_needNeighbour 2 none, Cond.methodLink RX6 278 yX6_neighbour, Cond.static yX6_neighbour, Cond.code yX6_neighbour cX6_neighbour 2 (some .int), Cond.methodLink RX6 79 yX1_isShut, Cond.instanceMethod yX1_isShut, Cond.selects RX1 yX1_isShut yX1_isShut, Cond.initialized RX1, Cond.code yX1_isShut cX1_isShut 2 (some .boolean), Cond.fieldLink RX1 25 "PoreField$Cell" "isShutEast" "Z", Cond.fieldLink RX1 29 "PoreField$Cell" "isShutSouth" "Z", Cond.methodLink RX6 83 yX1_shut, Cond.instanceMethod yX1_shut, Cond.selects RX1 yX1_shut yX1_shut, Cond.code yX1_shut cX1_shut 3 none, Cond.methodLink RX7 144 yX6_plug, Cond.instanceMethod yX6_plug, Cond.selects RX6 yX6_plug yX6_plug, Cond.code yX6_plug cX6_plug 3 (some .int), Cond.methodLink RX7 147 yX6_test]
def wsX7_turn_r5 : List Cond := [Cond.instanceMethod yX6_test, Cond.selects RX6 yX6_test yX6_test, Cond.code yX6_test cX6_test 3 (some .boolean), Cond.fieldLink RX6 101 "PoreField$Well" "kind" "I", Cond.fieldLink RX6 121 "PoreField$WellLog" "isToTest" "Z"]
def wsX7_turn : List Cond := .code yX7_turn cX7_turn 9 (some .boolean) :: ((wsX7_turn_r1 ++ (wsX7_turn_r2 ++ (wsX7_turn_r3 ++ (wsX7_turn_r4 ++ wsX7_turn_r5)))) ++ wsX70 ++ wsX60 ++ wsX20 ++ wsX40 ++ wsX50 ++ wsX10 ++ (vx_atS RX6 277 "java/lang/IndexOutOfBoundsException" ["java/lang/RuntimeException", "java/lang/Exception"]).filter goodWord ++ (vx_atS RX6 288 "java/lang/IllegalArgumentException" ["java/lang/RuntimeException", "java/lang/Exception"]).filter goodWord ++ (vx_atS RX6 94 "java/lang/IllegalStateException" ["java/lang/RuntimeException", "java/lang/Exception"]).filter goodWord)
def wsJ9_max_7cf53 : List Cond := .code yJ9_max_7cf53 cJ9_max_7cf53 2 (some .int) :: ([])
def wsJ9_min_7cf53 : List Cond := .code yJ9_min_7cf53 cJ9_min_7cf53 2 (some .int) :: ([])
def wsJ9_min_f86c9 : List Cond := .code yJ9_min_f86c9 cJ9_min_f86c9 4 (some .long) :: ([])
def wsL_law0_r1 : List Cond := [Cond.classLink RL 9 RX7, Cond.instantiable RX7 13, Cond.initialized RX7, Cond.fieldLink RL 14 "PoreFieldLaw$Told" "m" "LPoreField;", Cond.fieldLink RL 30 "PoreFieldLaw$Told" "draws" "I", Cond.fieldLink RL 74 "PoreFieldLaw$Told" "wells" "[[I", Cond.methodLink RL 11 yX7_init, Cond.instanceMethod yX7_init, Cond.code yX7_init cX7_init 4 none, Cond.methodLink RX7 1 objectInit, Cond.instanceMethod objectInit, Cond.code objectInit ⟨#[0xb1]⟩ 1 none, Cond.classLink RX7 7 RX6, Cond.instantiable RX6 11, Cond.initialized RX6, Cond.fieldLink RX7 10 "PoreFieldLaw$Told" "m" "LPoreField;", Cond.arrayClass .int, Cond.fieldLink RX7 16 "PoreFieldLaw$Told" "rooms" "[I", Cond.classLink RX7 20 "[[I", Cond.fieldLink RX7 22 "PoreFieldLaw$Told" "has" "[[I", Cond.classLink RX7 25 "[[Z", Cond.arrayClass .boolean, Cond.fieldLink RX7 27 "PoreFieldLaw$Told" "isShut" "[[Z", Cond.classLink RX7 30 "[I"]
def wsL_law0_r2 : List Cond := [Cond.fieldLink RX7 31 "PoreFieldLaw$Told" "wells" "[[I", Cond.fieldLink RX7 34 "PoreFieldLaw$Told" "capacities" "[I", Cond.fieldLink RX7 37 "PoreFieldLaw$Told" "permit" "I", Cond.fieldLink RX7 41 "PoreFieldLaw$Told" "tank" "I", Cond.fieldLink RX7 44 "PoreFieldLaw$Told" "sums" "[I", Cond.fieldLink RX7 47 "PoreFieldLaw$Told" "s" "[I", Cond.fieldLink RX7 50 "PoreFieldLaw$Told" "draws" "I", Cond.methodLink RX7 9 yX6_init, Cond.instanceMethod yX6_init, Cond.code yX6_init cX6_init 2 none, Cond.methodLink RX6 1 objectInit, Cond.classLink RX6 7 RX2, Cond.instantiable RX2 12, Cond.initialized RX2, Cond.fieldLink RX6 10 "PoreField" "ground" "LPoreField$Ground;", Cond.fieldLink RX6 16 "PoreField" "trial" "LPoreField$Ground;", Cond.classLink RX6 19 RX5, Cond.fieldLink RX6 21 "PoreField" "logs" "[LPoreField$WellLog;", Cond.classLink RX6 25 RX3, Cond.fieldLink RX6 27 "PoreField" "partners" "[LPoreField$Partner;", Cond.classLink RX6 31 RX0, Cond.instantiable RX0 8, Cond.initialized RX0, Cond.fieldLink RX6 34 "PoreField" "booking" "LPoreField$Booking;"]
def wsL_law0_r3 : List Cond := [Cond.fieldLink RX6 38 "PoreField" "cameUpEver" "[I", Cond.fieldLink RX6 42 "PoreField" "price" "I", Cond.instantiable RX5 5, Cond.initialized RX5, Cond.instantiable RX3 4, Cond.initialized RX3, Cond.fieldLink RX6 48 "PoreField$Partner" "share" "I", Cond.methodLink RX6 9 yX2_init, Cond.instanceMethod yX2_init, Cond.code yX2_init cX2_init 2 none, Cond.methodLink RX2 3 objectInit, Cond.classLink RX2 9 RX1, Cond.fieldLink RX2 11 "PoreField$Ground" "cells" "[LPoreField$Cell;", Cond.classLink RX2 17 RX4, Cond.fieldLink RX2 19 "PoreField$Ground" "wells" "[LPoreField$Well;", Cond.fieldLink RX2 23 "PoreField$Ground" "capacity" "[I", Cond.fieldLink RX2 27 "PoreField$Ground" "permit" "I", Cond.fieldLink RX2 31 "PoreField$Ground" "tankSize" "I", Cond.fieldLink RX2 34 "PoreField$Ground" "cameUp" "[I", Cond.instantiable RX1 4, Cond.initialized RX1, Cond.instantiable RX4 5, Cond.initialized RX4, Cond.instanceMethod yX1_init]
def wsL_law0_r4 : List Cond := [Cond.code yX1_init cX1_init 1 none, Cond.methodLink RX1 3 objectInit, Cond.fieldLink RX1 9 "PoreField$Cell" "room" "I", Cond.fieldLink RX1 15 "PoreField$Cell" "fluids" "[I", Cond.instanceMethod yX4_init, Cond.code yX4_init cX4_init 1 none, Cond.methodLink RX4 3 objectInit, Cond.fieldLink RX4 9 "PoreField$Well" "rank" "I", Cond.fieldLink RX4 15 "PoreField$Well" "gave" "[I", Cond.instanceMethod yX0_init, Cond.code yX0_init cX0_init 1 none, Cond.methodLink RX0 3 objectInit, Cond.fieldLink RX0 9 "PoreField$Booking" "at" "I", Cond.instanceMethod yX5_init, Cond.code yX5_init cX5_init 1 none, Cond.methodLink RX5 3 objectInit, Cond.fieldLink RX5 9 "PoreField$WellLog" "test" "[I", Cond.instanceMethod yX3_init, Cond.code yX3_init cX3_init 1 none, Cond.methodLink RX3 1 objectInit, Cond.methodLink RL 18 yX7_found, Cond.instanceMethod yX7_found, Cond.selects RX7 yX7_found yX7_found, Cond.code yX7_found cX7_found 3 (some .boolean)]
def wsL_law0_r5 : List Cond := [Cond.methodLink RX7 123 yX7_draw, Cond.instanceMethod yX7_draw, Cond.selects RX7 yX7_draw yX7_draw, Cond.code yX7_draw cX7_draw 3 (some .int), Cond.static yL_cell, Cond.initialized RL, Cond.code yL_cell cL_cell 2 (some .int), Cond.constant RL 8 (790386105), Cond.static yL_below, Cond.code yL_below cL_below 2 (some .int), Cond.constant RL 7 (2147483647), Cond.methodLink RX7 126 yX7_lay, Cond.instanceMethod yX7_lay, Cond.selects RX7 yX7_lay yX7_lay, Cond.code yX7_lay cX7_lay 7 (some .boolean), Cond.methodLink RX7 63 yX6_cell, Cond.instanceMethod yX6_cell, Cond.selects RX6 yX6_cell yX6_cell, Cond.code yX6_cell cX6_cell 7 (some .int), Cond.fieldLink RX6 59 "PoreField$Ground" "cells" "[LPoreField$Cell;", Cond.fieldLink RX6 63 "PoreField$Cell" "room" "I", Cond.fieldLink RX6 68 "PoreField$Cell" "fluids" "[I", Cond.methodLink RX6 51 yX6_needIndex, Cond.static yX6_needIndex]
def wsL_law0_r6 : List Cond := [Cond.code yX6_needIndex cX6_needIndex 2 none, Cond.classLink RX6 273 "java/lang/IndexOutOfBoundsException", Cond.initialized "java/lang/IndexOutOfBoundsException", Cond.methodLink RX6 55 yX6_needWithin, Cond.static yX6_needWithin, Cond.code yX6_needWithin cX6_needWithin 3 none, Cond.classLink RX6 284 "java/lang/IllegalArgumentException", Cond.initialized "java/lang/IllegalArgumentException", Cond.methodLink RX6 71 yX1_pressure, Cond.instanceMethod yX1_pressure, Cond.selects RX1 yX1_pressure yX1_pressure, Cond.code yX1_pressure cX1_pressure 1 (some .int), Cond.methodLink RX1 32 yX1_all, Cond.instanceMethod yX1_all, Cond.selects RX1 yX1_all yX1_all, Cond.code yX1_all cX1_all 1 (some .int), Cond.methodLink RX7 66 yX7_pressure, Cond.instanceMethod yX7_pressure, Cond.selects RX7 yX7_pressure yX7_pressure, Cond.code yX7_pressure cX7_pressure 2 (some .int), Cond.methodLink RX7 86 yX7_all, Cond.instanceMethod yX7_all, Cond.selects RX7 yX7_all yX7_all, Cond.code yX7_all cX7_all 2 (some .int)]
def wsL_law0_r7 : List Cond := [Cond.methodLink RX7 130 yX7_fault, Cond.instanceMethod yX7_fault, Cond.selects RX7 yX7_fault yX7_fault, Cond.code yX7_fault cX7_fault 5 (some .boolean), Cond.methodLink RX7 82 yX6_fault, Cond.instanceMethod yX6_fault, Cond.selects RX6 yX6_fault yX6_fault, Cond.code yX6_fault cX6_fault 6 (some .boolean), Cond.methodLink RX6 75 yX6_needNeighbour, Cond.static yX6_needNeighbour, Cond.code yX6_needNeighbour cX6_needNeighbour 2 none, Cond.methodLink RX6 278 yX6_neighbour, Cond.static yX6_neighbour, Cond.code yX6_neighbour cX6_neighbour 2 (some .int), Cond.methodLink RX6 79 yX1_isShut, Cond.instanceMethod yX1_isShut, Cond.selects RX1 yX1_isShut yX1_isShut, Cond.code yX1_isShut cX1_isShut 2 (some .boolean), Cond.fieldLink RX1 25 "PoreField$Cell" "isShutEast" "Z", Cond.fieldLink RX1 29 "PoreField$Cell" "isShutSouth" "Z", Cond.methodLink RX6 83 yX1_shut, Cond.instanceMethod yX1_shut, Cond.selects RX1 yX1_shut yX1_shut, Cond.code yX1_shut cX1_shut 3 none]
def wsL_law0_r8 : List Cond := [Cond.methodLink RX7 131 yX7_well, Cond.instanceMethod yX7_well, Cond.selects RX7 yX7_well yX7_well, Cond.code yX7_well cX7_well 5 (some .boolean), Cond.methodLink RX7 70 arraycopyName, Cond.native arraycopyName, Cond.static arraycopyName, Cond.initialized "java/lang/System", Cond.methodLink RX7 76 yX6_well, Cond.instanceMethod yX6_well, Cond.selects RX6 yX6_well yX6_well, Cond.code yX6_well cX6_well 4 (some .int), Cond.classLink RX6 90 "java/lang/IllegalStateException", Cond.initialized "java/lang/IllegalStateException", Cond.fieldLink RX6 87 "PoreField$Ground" "drilled" "I", Cond.fieldLink RX6 97 "PoreField$Ground" "wells" "[LPoreField$Well;", Cond.fieldLink RX6 101 "PoreField$Well" "kind" "I", Cond.fieldLink RX6 106 "PoreField$Well" "cell" "I", Cond.methodLink RX7 134 yX7_choke, Cond.instanceMethod yX7_choke, Cond.selects RX7 yX7_choke yX7_choke, Cond.code yX7_choke cX7_choke 4 (some .boolean), Cond.methodLink RX7 79 yX6_choke, Cond.instanceMethod yX6_choke]
def wsL_law0_r9 : List Cond := [Cond.selects RX6 yX6_choke yX6_choke, Cond.code yX6_choke cX6_choke 4 (some .int), Cond.fieldLink RX6 113 "PoreField$Well" "choke" "I", Cond.methodLink RX6 109 yX6_needOpen, Cond.instanceMethod yX6_needOpen, Cond.selects RX6 yX6_needOpen yX6_needOpen, Cond.code yX6_needOpen cX6_needOpen 2 none, Cond.fieldLink RX6 125 "PoreField$WellLog" "isPlugged" "Z", Cond.methodLink RL 22 yX7_turn, Cond.instanceMethod yX7_turn, Cond.selects RX7 yX7_turn yX7_turn, Cond.code yX7_turn cX7_turn 9 (some .boolean), Cond.methodLink RX7 136 yX6_rank, Cond.instanceMethod yX6_rank, Cond.selects RX6 yX6_rank yX6_rank, Cond.code yX6_rank cX6_rank 4 (some .int), Cond.fieldLink RX6 116 "PoreField$Well" "rank" "I", Cond.methodLink RX7 139 yX6_capacity, Cond.instanceMethod yX6_capacity, Cond.selects RX6 yX6_capacity yX6_capacity, Cond.code yX6_capacity cX6_capacity 4 (some .int), Cond.fieldLink RX6 128 "PoreField$Ground" "capacity" "[I", Cond.methodLink RX7 142 yX6_permit, Cond.instanceMethod yX6_permit]
def wsL_law0_r10 : List Cond := [Cond.selects RX6 yX6_permit yX6_permit, Cond.code yX6_permit cX6_permit 3 (some .int), Cond.fieldLink RX6 131 "PoreField$Ground" "permit" "I", Cond.methodLink RX7 144 yX6_plug, Cond.instanceMethod yX6_plug, Cond.selects RX6 yX6_plug yX6_plug, Cond.code yX6_plug cX6_plug 3 (some .int), Cond.methodLink RX7 147 yX6_test, Cond.instanceMethod yX6_test, Cond.selects RX6 yX6_test yX6_test, Cond.code yX6_test cX6_test 3 (some .boolean), Cond.fieldLink RX6 121 "PoreField$WellLog" "isToTest" "Z", Cond.methodLink RL 26 yX7_draw, Cond.methodLink RL 34 yX6_digest, Cond.instanceMethod yX6_digest, Cond.selects RX6 yX6_digest yX6_digest, Cond.code yX6_digest cX6_digest 5 (some .long), Cond.constantLong RX6 244 (5406), Cond.constantLong RX6 246 (31), Cond.methodLink RX6 248 yX6_many, Cond.instanceMethod yX6_many, Cond.selects RX6 yX6_many yX6_many, Cond.code yX6_many cX6_many 2 (some .int), Cond.fieldLink RX6 145 "PoreField" "now" "I"]
def wsL_law0_r11 : List Cond := [Cond.fieldLink RX6 134 "PoreField$Ground" "tankHas" "I", Cond.fieldLink RX6 223 "PoreField" "flaredEver" "I", Cond.fieldLink RX6 226 "PoreField" "putBackEver" "I", Cond.fieldLink RX6 229 "PoreField" "waterInEver" "I", Cond.fieldLink RX6 184 "PoreField$Booking" "count" "I", Cond.methodLink RX6 220 yX2_inAllCells, Cond.instanceMethod yX2_inAllCells, Cond.selects RX2 yX2_inAllCells yX2_inAllCells, Cond.code yX2_inAllCells cX2_inAllCells 4 (some .int), Cond.fieldLink RX2 58 "PoreField$Cell" "fluids" "[I", Cond.methodLink RX6 232 yX2_faults, Cond.instanceMethod yX2_faults, Cond.selects RX2 yX2_faults yX2_faults, Cond.code yX2_faults cX2_faults 3 (some .int), Cond.methodLink RX2 61 yX1_isShut, Cond.methodLink RX6 251 yX6_ofCell, Cond.instanceMethod yX6_ofCell, Cond.selects RX6 yX6_ofCell yX6_ofCell, Cond.code yX6_ofCell cX6_ofCell 4 (some .int), Cond.methodLink RX6 254 yX6_ofWell, Cond.instanceMethod yX6_ofWell, Cond.selects RX6 yX6_ofWell yX6_ofWell, Cond.code yX6_ofWell cX6_ofWell 5 (some .int), Cond.fieldLink RX6 205 "PoreField$WellLog" "test" "[I"]
def wsL_law0_r12 : List Cond := [Cond.fieldLink RX6 208 "PoreField$Well" "gave" "[I", Cond.fieldLink RX6 211 "PoreField$WellLog" "oilEver" "I", Cond.fieldLink RX6 214 "PoreField$WellLog" "allocatedEver" "I", Cond.methodLink RX6 257 yX6_bestChoke, Cond.instanceMethod yX6_bestChoke, Cond.selects RX6 yX6_bestChoke yX6_bestChoke, Cond.code yX6_bestChoke cX6_bestChoke 7 (some .int), Cond.methodLink RX6 237 yX2_take, Cond.instanceMethod yX2_take, Cond.selects RX2 yX2_take yX2_take, Cond.code yX2_take cX2_take 3 none, Cond.fieldLink RX2 46 "PoreField$Ground" "drilled" "I", Cond.methodLink RX2 49 arraycopyName, Cond.fieldLink RX2 55 "PoreField$Ground" "tankHas" "I", Cond.methodLink RX2 39 yX1_take, Cond.instanceMethod yX1_take, Cond.selects RX1 yX1_take yX1_take, Cond.code yX1_take cX1_take 2 none, Cond.methodLink RX1 19 arraycopyName, Cond.methodLink RX2 43 yX4_take, Cond.instanceMethod yX4_take, Cond.selects RX4 yX4_take yX4_take, Cond.code yX4_take cX4_take 2 none, Cond.fieldLink RX4 19 "PoreField$Well" "kind" "I"]
def wsL_law0_r13 : List Cond := [Cond.fieldLink RX4 22 "PoreField$Well" "cell" "I", Cond.fieldLink RX4 25 "PoreField$Well" "choke" "I", Cond.methodLink RX6 241 yX2_passMonths, Cond.instanceMethod yX2_passMonths, Cond.selects RX2 yX2_passMonths yX2_passMonths, Cond.code yX2_passMonths cX2_passMonths 4 (some .int), Cond.methodLink RX2 65 yX2_passMonth, Cond.instanceMethod yX2_passMonth, Cond.selects RX2 yX2_passMonth yX2_passMonth, Cond.code yX2_passMonth cX2_passMonth 3 (some .int), Cond.fieldLink RX2 72 "PoreField$Well" "kind" "I", Cond.fieldLink RX2 75 "PoreField$Well" "rank" "I", Cond.methodLink RX2 69 yX2_startMonth, Cond.instanceMethod yX2_startMonth, Cond.selects RX2 yX2_startMonth yX2_startMonth, Cond.code yX2_startMonth cX2_startMonth 2 none, Cond.fieldLink RX2 91 "PoreField$Ground" "putBack" "I", Cond.fieldLink RX2 94 "PoreField$Ground" "waterIn" "I", Cond.fieldLink RX2 97 "PoreField$Ground" "gasOutlets" "I", Cond.fieldLink RX2 103 "PoreField$Well" "choke" "I", Cond.methodLink RX2 100 yX4_forgetMonth, Cond.instanceMethod yX4_forgetMonth, Cond.selects RX4 yX4_forgetMonth yX4_forgetMonth, Cond.code yX4_forgetMonth cX4_forgetMonth 2 none]
def wsL_law0_r14 : List Cond := [Cond.methodLink RX2 78 yX2_produce, Cond.instanceMethod yX2_produce, Cond.selects RX2 yX2_produce yX2_produce, Cond.code yX2_produce cX2_produce 6 none, Cond.fieldLink RX2 106 "PoreField$Well" "cell" "I", Cond.methodLink RX2 112 Lib.Math.max.name, Cond.static Lib.Math.max.name, Cond.initialized "java/lang/Math", Cond.code Lib.Math.max.name Lib.Math.max.code 2 (some .int), Cond.methodLink RX2 125 Lib.Math.min.name, Cond.static Lib.Math.min.name, Cond.code Lib.Math.min.name Lib.Math.min.code 2 (some .int), Cond.fieldLink RX2 128 "PoreField$Well" "gave" "[I", Cond.methodLink RX2 109 yX1_pressure, Cond.methodLink RX2 118 yX2_mayComeUp, Cond.instanceMethod yX2_mayComeUp, Cond.selects RX2 yX2_mayComeUp yX2_mayComeUp, Cond.code yX2_mayComeUp cX2_mayComeUp 3 (some .int), Cond.methodLink RX2 122 yX1_mostTimes, Cond.instanceMethod yX1_mostTimes, Cond.selects RX1 yX1_mostTimes yX1_mostTimes, Cond.code yX1_mostTimes cX1_mostTimes 3 (some .int), Cond.methodLink RX1 38 yX1_flow, Cond.instanceMethod yX1_flow]
def wsL_law0_r15 : List Cond := [Cond.selects RX1 yX1_flow yX1_flow, Cond.code yX1_flow cX1_flow 2 (some .long), Cond.constantLong RX1 36 (2), Cond.methodLink RX2 131 yX1_moveOut, Cond.instanceMethod yX1_moveOut, Cond.selects RX1 yX1_moveOut yX1_moveOut, Cond.code yX1_moveOut cX1_moveOut 6 none, Cond.methodLink RX1 42 Lib.Math.min.name, Cond.methodLink RX1 48 Lib.MathLoose.min_long.x, Cond.static Lib.MathLoose.min_long.x, Cond.code Lib.MathLoose.min_long.x Lib.MathLoose.min_long.code 4 (some .long), Cond.methodLink RX2 81 yX2_putGasBack, Cond.instanceMethod yX2_putGasBack, Cond.selects RX2 yX2_putGasBack yX2_putGasBack, Cond.code yX2_putGasBack cX2_putGasBack 4 none, Cond.fieldLink RX2 139 "PoreField$Ground" "flared" "I", Cond.methodLink RX2 135 yX2_putIn, Cond.instanceMethod yX2_putIn, Cond.selects RX2 yX2_putIn yX2_putIn, Cond.code yX2_putIn cX2_putIn 4 none, Cond.methodLink RX2 84 yX2_putWaterIn, Cond.instanceMethod yX2_putWaterIn, Cond.selects RX2 yX2_putWaterIn yX2_putWaterIn, Cond.code yX2_putWaterIn cX2_putWaterIn 3 none]
def wsL_law0_r16 : List Cond := [Cond.methodLink RX2 87 yX2_evenOut, Cond.instanceMethod yX2_evenOut, Cond.selects RX2 yX2_evenOut yX2_evenOut, Cond.code yX2_evenOut cX2_evenOut 7 none, Cond.methodLink RX6 260 yX6_ofPartner, Cond.instanceMethod yX6_ofPartner, Cond.selects RX6 yX6_ofPartner yX6_ofPartner, Cond.code yX6_ofPartner cX6_ofPartner 4 (some .int), Cond.fieldLink RX6 217 "PoreField$Partner" "entitled" "I", Cond.fieldLink RX6 173 "PoreField$Partner" "lifted" "I", Cond.fieldLink RX6 176 "PoreField$Partner" "money" "I", Cond.methodLink RX6 163 yX6_mayLift, Cond.instanceMethod yX6_mayLift, Cond.selects RX6 yX6_mayLift yX6_mayLift, Cond.code yX6_mayLift cX6_mayLift 3 (some .int), Cond.methodLink RX6 167 Lib.Math.min.name, Cond.methodLink RX6 263 yX6_booked, Cond.instanceMethod yX6_booked, Cond.selects RX6 yX6_booked yX6_booked, Cond.code yX6_booked cX6_booked 2 (some .int), Cond.fieldLink RX6 190 "PoreField$Booking" "reserves" "I", Cond.fieldLink RX6 196 "PoreField$Booking" "produced" "I", Cond.fieldLink RX6 199 "PoreField$Booking" "fresh" "I", Cond.fieldLink RX6 193 "PoreField$Booking" "revised" "I"]
def wsL_law0_r17 : List Cond := [Cond.fieldLink RX6 202 "PoreField$Booking" "at" "I", Cond.methodLink RX6 266 yX6_wouldGive, Cond.instanceMethod yX6_wouldGive, Cond.selects RX6 yX6_wouldGive yX6_wouldGive, Cond.code yX6_wouldGive cX6_wouldGive 2 (some .int), Cond.methodLink RX6 269 yX6_keptBack, Cond.instanceMethod yX6_keptBack, Cond.selects RX6 yX6_keptBack yX6_keptBack, Cond.code yX6_keptBack cX6_keptBack 5 (some .int), Cond.methodLink RL 40 yX6_keptBack, Cond.methodLink RL 44 yX6_wouldGive, Cond.methodLink RL 47 yX6_ofWell, Cond.methodLink RL 51 yX6_bestChoke, Cond.methodLink RL 54 yX6_booked, Cond.methodLink RL 57 yX6_book, Cond.instanceMethod yX6_book, Cond.selects RX6 yX6_book yX6_book, Cond.code yX6_book cX6_book 4 (some .int), Cond.fieldLink RX6 182 "PoreField$Booking" "wells" "I", Cond.fieldLink RX6 187 "PoreField$Booking" "oil" "I", Cond.methodLink RX6 179 yX6_reservesOf, Cond.instanceMethod yX6_reservesOf, Cond.selects RX6 yX6_reservesOf yX6_reservesOf, Cond.code yX6_reservesOf cX6_reservesOf 3 (some .int)]
def wsL_law0_r18 : List Cond := [Cond.constant RX6 313 (1000000), Cond.fieldLink RX6 139 "PoreField$Ground" "tankSize" "I", Cond.methodLink RL 61 yX6_many, Cond.methodLink RL 64 yX6_choke, Cond.methodLink RL 67 yX6_fault, Cond.methodLink RL 71 yX6_pass, Cond.instanceMethod yX6_pass, Cond.selects RX6 yX6_pass yX6_pass, Cond.code yX6_pass cX6_pass 4 (some .int), Cond.fieldLink RX6 151 "PoreField$Ground" "cameUp" "[I", Cond.methodLink RX6 142 yX2_passMonth, Cond.methodLink RX6 148 yX6_countMonth, Cond.instanceMethod yX6_countMonth, Cond.selects RX6 yX6_countMonth yX6_countMonth, Cond.code yX6_countMonth cX6_countMonth 2 none, Cond.fieldLink RX6 291 "PoreField$Ground" "flared" "I", Cond.fieldLink RX6 294 "PoreField$Ground" "putBack" "I", Cond.fieldLink RX6 297 "PoreField$Ground" "waterIn" "I", Cond.methodLink RX6 154 yX6_allocate, Cond.instanceMethod yX6_allocate, Cond.selects RX6 yX6_allocate yX6_allocate, Cond.code yX6_allocate cX6_allocate 6 none, Cond.methodLink RX6 300 yX4_hasProduced, Cond.instanceMethod yX4_hasProduced]
def wsL_law0_r19 : List Cond := [Cond.selects RX4 yX4_hasProduced yX4_hasProduced, Cond.code yX4_hasProduced cX4_hasProduced 1 (some .boolean), Cond.methodLink RX6 304 yX6_allocateOneByOne, Cond.instanceMethod yX6_allocateOneByOne, Cond.selects RX6 yX6_allocateOneByOne yX6_allocateOneByOne, Cond.code yX6_allocateOneByOne cX6_allocateOneByOne 5 none, Cond.methodLink RX6 157 yX6_keepTests, Cond.instanceMethod yX6_keepTests, Cond.selects RX6 yX6_keepTests yX6_keepTests, Cond.code yX6_keepTests cX6_keepTests 2 none, Cond.methodLink RX6 307 arraycopyName, Cond.methodLink RX6 160 yX6_entitle, Cond.instanceMethod yX6_entitle, Cond.selects RX6 yX6_entitle yX6_entitle, Cond.code yX6_entitle cX6_entitle 5 none]
def wsL_law0 : List Cond := (wsL_law0_r1 ++ (wsL_law0_r2 ++ (wsL_law0_r3 ++ (wsL_law0_r4 ++ (wsL_law0_r5 ++ (wsL_law0_r6 ++ (wsL_law0_r7 ++ (wsL_law0_r8 ++ (wsL_law0_r9 ++ (wsL_law0_r10 ++ (wsL_law0_r11 ++ (wsL_law0_r12 ++ (wsL_law0_r13 ++ (wsL_law0_r14 ++ (wsL_law0_r15 ++ (wsL_law0_r16 ++ (wsL_law0_r17 ++ (wsL_law0_r18 ++ wsL_law0_r19)))))))))))))))))) ++ wsX70 ++ wsX60 ++ wsX20 ++ wsX00 ++ wsX50 ++ wsX30 ++ wsX10 ++ wsX40 ++ ([] : List Cond)
def wsL_law : List Cond := wsL_law0 ++ (vx_atS RX6 277 "java/lang/IndexOutOfBoundsException" ["java/lang/RuntimeException", "java/lang/Exception"]).filter goodWord ++ (vx_atS RX6 288 "java/lang/IllegalArgumentException" ["java/lang/RuntimeException", "java/lang/Exception"]).filter goodWord ++ (vx_atS RX6 94 "java/lang/IllegalStateException" ["java/lang/RuntimeException", "java/lang/Exception"]).filter goodWord
theorem inJ9 : ∀ w ∈ wsJ90, w ∈ lw_tbl := by decide +kernel
theorem inJ0 : ∀ w ∈ wsJ00, w ∈ lw_tbl := by decide +kernel
theorem inJ10 : ∀ w ∈ wsJ100, w ∈ lw_tbl := by decide +kernel
theorem dX0_init_0 : decode cX0_init 0 = .ok (.aload_n 0, 1) := by decide +kernel
theorem dX0_init_1 : decode cX0_init 1 = .ok (.invokespecial 3, 3) := by decide +kernel
theorem dX0_init_4 : decode cX0_init 4 = .ok (.aload_n 0, 1) := by decide +kernel
theorem dX0_init_5 : decode cX0_init 5 = .ok (.iconst (-1), 1) := by decide +kernel
theorem dX0_init_6 : decode cX0_init 6 = .ok (.putfield 9, 3) := by decide +kernel
theorem dX0_init_9 : decode cX0_init 9 = .ok (.return_, 1) := by decide +kernel
theorem dX1_init_0 : decode cX1_init 0 = .ok (.aload_n 0, 1) := by decide +kernel
theorem dX1_init_1 : decode cX1_init 1 = .ok (.invokespecial 3, 3) := by decide +kernel
theorem dX1_init_4 : decode cX1_init 4 = .ok (.aload_n 0, 1) := by decide +kernel
theorem dX1_init_5 : decode cX1_init 5 = .ok (.bipush 40, 2) := by decide +kernel
theorem dX1_init_7 : decode cX1_init 7 = .ok (.putfield 9, 3) := by decide +kernel
theorem dX1_init_10 : decode cX1_init 10 = .ok (.aload_n 0, 1) := by decide +kernel
theorem dX1_init_11 : decode cX1_init 11 = .ok (.iconst 3, 1) := by decide +kernel
theorem dX1_init_12 : decode cX1_init 12 = .ok (.newarray .int, 2) := by decide +kernel
theorem dX1_init_14 : decode cX1_init 14 = .ok (.putfield 15, 3) := by decide +kernel
theorem dX1_init_17 : decode cX1_init 17 = .ok (.return_, 1) := by decide +kernel
theorem dX1_take_0 : decode cX1_take 0 = .ok (.aload_n 0, 1) := by decide +kernel
theorem dX1_take_1 : decode cX1_take 1 = .ok (.aload_n 1, 1) := by decide +kernel
theorem dX1_take_2 : decode cX1_take 2 = .ok (.getfield 9, 3) := by decide +kernel
theorem dX1_take_5 : decode cX1_take 5 = .ok (.putfield 9, 3) := by decide +kernel
theorem dX1_take_8 : decode cX1_take 8 = .ok (.aload_n 1, 1) := by decide +kernel
theorem dX1_take_9 : decode cX1_take 9 = .ok (.getfield 15, 3) := by decide +kernel
theorem dX1_take_12 : decode cX1_take 12 = .ok (.iconst 0, 1) := by decide +kernel
theorem dX1_take_13 : decode cX1_take 13 = .ok (.aload_n 0, 1) := by decide +kernel
theorem dX1_take_14 : decode cX1_take 14 = .ok (.getfield 15, 3) := by decide +kernel
theorem dX1_take_17 : decode cX1_take 17 = .ok (.iconst 0, 1) := by decide +kernel
theorem dX1_take_18 : decode cX1_take 18 = .ok (.iconst 3, 1) := by decide +kernel
theorem dX1_take_19 : decode cX1_take 19 = .ok (.invokestatic 19, 3) := by decide +kernel
theorem dX1_take_22 : decode cX1_take 22 = .ok (.aload_n 0, 1) := by decide +kernel
theorem dX1_take_23 : decode cX1_take 23 = .ok (.aload_n 1, 1) := by decide +kernel
theorem dX1_take_24 : decode cX1_take 24 = .ok (.getfield 25, 3) := by decide +kernel
theorem dX1_take_27 : decode cX1_take 27 = .ok (.putfield 25, 3) := by decide +kernel
theorem dX1_take_30 : decode cX1_take 30 = .ok (.aload_n 0, 1) := by decide +kernel
theorem dX1_take_31 : decode cX1_take 31 = .ok (.aload_n 1, 1) := by decide +kernel
theorem dX1_take_32 : decode cX1_take 32 = .ok (.getfield 29, 3) := by decide +kernel
theorem dX1_take_35 : decode cX1_take 35 = .ok (.putfield 29, 3) := by decide +kernel
theorem dX1_take_38 : decode cX1_take 38 = .ok (.return_, 1) := by decide +kernel
theorem dX1_isShut_0 : decode cX1_isShut 0 = .ok (.iload_n 1, 1) := by decide +kernel
theorem dX1_isShut_1 : decode cX1_isShut 1 = .ok (.ifCond .eq 10, 3) := by decide +kernel
theorem dX1_isShut_4 : decode cX1_isShut 4 = .ok (.aload_n 0, 1) := by decide +kernel
theorem dX1_isShut_5 : decode cX1_isShut 5 = .ok (.getfield 25, 3) := by decide +kernel
theorem dX1_isShut_8 : decode cX1_isShut 8 = .ok (.goto 7, 3) := by decide +kernel
theorem dX1_isShut_11 : decode cX1_isShut 11 = .ok (.aload_n 0, 1) := by decide +kernel
theorem dX1_isShut_12 : decode cX1_isShut 12 = .ok (.getfield 29, 3) := by decide +kernel
theorem dX1_isShut_15 : decode cX1_isShut 15 = .ok (.ireturn, 1) := by decide +kernel
theorem dX1_shut_0 : decode cX1_shut 0 = .ok (.iload_n 1, 1) := by decide +kernel
theorem dX1_shut_1 : decode cX1_shut 1 = .ok (.ifCond .eq 11, 3) := by decide +kernel
theorem dX1_shut_4 : decode cX1_shut 4 = .ok (.aload_n 0, 1) := by decide +kernel
theorem dX1_shut_5 : decode cX1_shut 5 = .ok (.iload_n 2, 1) := by decide +kernel
theorem dX1_shut_6 : decode cX1_shut 6 = .ok (.putfield 25, 3) := by decide +kernel
theorem dX1_shut_9 : decode cX1_shut 9 = .ok (.goto 8, 3) := by decide +kernel
theorem dX1_shut_12 : decode cX1_shut 12 = .ok (.aload_n 0, 1) := by decide +kernel
theorem dX1_shut_13 : decode cX1_shut 13 = .ok (.iload_n 2, 1) := by decide +kernel
theorem dX1_shut_14 : decode cX1_shut 14 = .ok (.putfield 29, 3) := by decide +kernel
theorem dX1_shut_17 : decode cX1_shut 17 = .ok (.return_, 1) := by decide +kernel
theorem dX1_all_0 : decode cX1_all 0 = .ok (.aload_n 0, 1) := by decide +kernel
theorem dX1_all_1 : decode cX1_all 1 = .ok (.getfield 15, 3) := by decide +kernel
theorem dX1_all_4 : decode cX1_all 4 = .ok (.iconst 0, 1) := by decide +kernel
theorem dX1_all_5 : decode cX1_all 5 = .ok (.iaload, 1) := by decide +kernel
theorem dX1_all_6 : decode cX1_all 6 = .ok (.aload_n 0, 1) := by decide +kernel
theorem dX1_all_7 : decode cX1_all 7 = .ok (.getfield 15, 3) := by decide +kernel
theorem dX1_all_10 : decode cX1_all 10 = .ok (.iconst 1, 1) := by decide +kernel
theorem dX1_all_11 : decode cX1_all 11 = .ok (.iaload, 1) := by decide +kernel
theorem dX1_all_12 : decode cX1_all 12 = .ok (.iadd, 1) := by decide +kernel
theorem dX1_all_13 : decode cX1_all 13 = .ok (.aload_n 0, 1) := by decide +kernel
theorem dX1_all_14 : decode cX1_all 14 = .ok (.getfield 15, 3) := by decide +kernel
theorem dX1_all_17 : decode cX1_all 17 = .ok (.iconst 2, 1) := by decide +kernel
theorem dX1_all_18 : decode cX1_all 18 = .ok (.iaload, 1) := by decide +kernel
theorem dX1_all_19 : decode cX1_all 19 = .ok (.iadd, 1) := by decide +kernel
theorem dX1_all_20 : decode cX1_all 20 = .ok (.ireturn, 1) := by decide +kernel
end
section
set_option maxRecDepth 20000 in
theorem ggX1_pressure_X1_all : GoodIn wsX1_pressure wsX1_all := goodIn_r _ [6, 7, 8, 9, 10, 11] (by decide +kernel) (by decide +kernel)
set_option maxRecDepth 20000 in
theorem gX1_pressure_X1_all : GoodIn wsX1_pressure (wsV RX1 32 RX1 yX1_all wsX1_all) := goodIn_app (goodIn_of _ (by decide +kernel)) ggX1_pressure_X1_all
theorem dX1_pressure_0 : decode cX1_pressure 0 = .ok (.bipush 100, 2) := by decide +kernel
theorem dX1_pressure_2 : decode cX1_pressure 2 = .ok (.aload_n 0, 1) := by decide +kernel
theorem dX1_pressure_3 : decode cX1_pressure 3 = .ok (.invokevirtual 32, 3) := by decide +kernel
theorem dX1_pressure_6 : decode cX1_pressure 6 = .ok (.imul, 1) := by decide +kernel
theorem dX1_pressure_7 : decode cX1_pressure 7 = .ok (.aload_n 0, 1) := by decide +kernel
theorem dX1_pressure_8 : decode cX1_pressure 8 = .ok (.getfield 9, 3) := by decide +kernel
theorem dX1_pressure_11 : decode cX1_pressure 11 = .ok (.idiv, 1) := by decide +kernel
theorem dX1_pressure_12 : decode cX1_pressure 12 = .ok (.ireturn, 1) := by decide +kernel
theorem dX1_flow_0 : decode cX1_flow 0 = .ok (.iload_n 1, 1) := by decide +kernel
theorem dX1_flow_1 : decode cX1_flow 1 = .ok (.iconst 2, 1) := by decide +kernel
theorem dX1_flow_2 : decode cX1_flow 2 = .ok (.if_icmp .ne 17, 3) := by decide +kernel
theorem dX1_flow_5 : decode cX1_flow 5 = .ok (.ldc2_w 36, 3) := by decide +kernel
theorem dX1_flow_8 : decode cX1_flow 8 = .ok (.aload_n 0, 1) := by decide +kernel
theorem dX1_flow_9 : decode cX1_flow 9 = .ok (.getfield 15, 3) := by decide +kernel
theorem dX1_flow_12 : decode cX1_flow 12 = .ok (.iload_n 1, 1) := by decide +kernel
theorem dX1_flow_13 : decode cX1_flow 13 = .ok (.iaload, 1) := by decide +kernel
theorem dX1_flow_14 : decode cX1_flow 14 = .ok (.i2l, 1) := by decide +kernel
theorem dX1_flow_15 : decode cX1_flow 15 = .ok (.lmul, 1) := by decide +kernel
theorem dX1_flow_16 : decode cX1_flow 16 = .ok (.goto 10, 3) := by decide +kernel
theorem dX1_flow_19 : decode cX1_flow 19 = .ok (.aload_n 0, 1) := by decide +kernel
theorem dX1_flow_20 : decode cX1_flow 20 = .ok (.getfield 15, 3) := by decide +kernel
theorem dX1_flow_23 : decode cX1_flow 23 = .ok (.iload_n 1, 1) := by decide +kernel
theorem dX1_flow_24 : decode cX1_flow 24 = .ok (.iaload, 1) := by decide +kernel
theorem dX1_flow_25 : decode cX1_flow 25 = .ok (.i2l, 1) := by decide +kernel
theorem dX1_flow_26 : decode cX1_flow 26 = .ok (.lreturn, 1) := by decide +kernel
set_option maxRecDepth 20000 in
theorem ggX1_mostTimes_X1_all : GoodIn wsX1_mostTimes wsX1_all := goodIn_r _ [6, 1, 12, 13, 14, 15] (by decide +kernel) (by decide +kernel)
set_option maxRecDepth 20000 in
theorem gX1_mostTimes_X1_all : GoodIn wsX1_mostTimes (wsV RX1 32 RX1 yX1_all wsX1_all) := goodIn_app (goodIn_of _ (by decide +kernel)) ggX1_mostTimes_X1_all
set_option maxRecDepth 20000 in
theorem ggX1_mostTimes_X1_flow : GoodIn wsX1_mostTimes wsX1_flow := goodIn_r _ [10, 11, 1, 12, 13, 14, 15] (by decide +kernel) (by decide +kernel)
set_option maxRecDepth 20000 in
theorem gX1_mostTimes_X1_flow : GoodIn wsX1_mostTimes (wsV RX1 38 RX1 yX1_flow wsX1_flow) := goodIn_app (goodIn_of _ (by decide +kernel)) ggX1_mostTimes_X1_flow
theorem dX1_mostTimes_0 : decode cX1_mostTimes 0 = .ok (.aload_n 0, 1) := by decide +kernel
theorem dX1_mostTimes_1 : decode cX1_mostTimes 1 = .ok (.getfield 15, 3) := by decide +kernel
theorem dX1_mostTimes_4 : decode cX1_mostTimes 4 = .ok (.iload_n 1, 1) := by decide +kernel
theorem dX1_mostTimes_5 : decode cX1_mostTimes 5 = .ok (.iaload, 1) := by decide +kernel
theorem dX1_mostTimes_6 : decode cX1_mostTimes 6 = .ok (.ifCond .le 13, 3) := by decide +kernel
theorem dX1_mostTimes_9 : decode cX1_mostTimes 9 = .ok (.aload_n 0, 1) := by decide +kernel
theorem dX1_mostTimes_10 : decode cX1_mostTimes 10 = .ok (.getfield 15, 3) := by decide +kernel
theorem dX1_mostTimes_13 : decode cX1_mostTimes 13 = .ok (.iload_n 1, 1) := by decide +kernel
theorem dX1_mostTimes_14 : decode cX1_mostTimes 14 = .ok (.iaload, 1) := by decide +kernel
theorem dX1_mostTimes_15 : decode cX1_mostTimes 15 = .ok (.iload_n 2, 1) := by decide +kernel
theorem dX1_mostTimes_16 : decode cX1_mostTimes 16 = .ok (.if_icmp .gt 8, 3) := by decide +kernel
theorem dX1_mostTimes_19 : decode cX1_mostTimes 19 = .ok (.aload_n 0, 1) := by decide +kernel
theorem dX1_mostTimes_20 : decode cX1_mostTimes 20 = .ok (.invokevirtual 32, 3) := by decide +kernel
theorem dX1_mostTimes_23 : decode cX1_mostTimes 23 = .ok (.ireturn, 1) := by decide +kernel
theorem dX1_mostTimes_24 : decode cX1_mostTimes 24 = .ok (.iload_n 2, 1) := by decide +kernel
theorem dX1_mostTimes_25 : decode cX1_mostTimes 25 = .ok (.i2l, 1) := by decide +kernel
theorem dX1_mostTimes_26 : decode cX1_mostTimes 26 = .ok (.lconst 1, 1) := by decide +kernel
theorem dX1_mostTimes_27 : decode cX1_mostTimes 27 = .ok (.ladd, 1) := by decide +kernel
theorem dX1_mostTimes_28 : decode cX1_mostTimes 28 = .ok (.aload_n 0, 1) := by decide +kernel
theorem dX1_mostTimes_29 : decode cX1_mostTimes 29 = .ok (.invokevirtual 32, 3) := by decide +kernel
theorem dX1_mostTimes_32 : decode cX1_mostTimes 32 = .ok (.i2l, 1) := by decide +kernel
theorem dX1_mostTimes_33 : decode cX1_mostTimes 33 = .ok (.lmul, 1) := by decide +kernel
theorem dX1_mostTimes_34 : decode cX1_mostTimes 34 = .ok (.lconst 1, 1) := by decide +kernel
theorem dX1_mostTimes_35 : decode cX1_mostTimes 35 = .ok (.lsub, 1) := by decide +kernel
theorem dX1_mostTimes_36 : decode cX1_mostTimes 36 = .ok (.aload_n 0, 1) := by decide +kernel
theorem dX1_mostTimes_37 : decode cX1_mostTimes 37 = .ok (.iload_n 1, 1) := by decide +kernel
theorem dX1_mostTimes_38 : decode cX1_mostTimes 38 = .ok (.invokevirtual 38, 3) := by decide +kernel
theorem dX1_mostTimes_41 : decode cX1_mostTimes 41 = .ok (.ldiv, 1) := by decide +kernel
theorem dX1_mostTimes_42 : decode cX1_mostTimes 42 = .ok (.l2i, 1) := by decide +kernel
theorem dX1_mostTimes_43 : decode cX1_mostTimes 43 = .ok (.ireturn, 1) := by decide +kernel
set_option maxRecDepth 20000 in
theorem ggX1_moveOut_X1_all : GoodIn wsX1_moveOut wsX1_all := goodIn_r _ [13, 1, 19, 20, 21, 22] (by decide +kernel) (by decide +kernel)
set_option maxRecDepth 20000 in
theorem gX1_moveOut_X1_all : GoodIn wsX1_moveOut (wsV RX1 32 RX1 yX1_all wsX1_all) := goodIn_app (goodIn_of _ (by decide +kernel)) ggX1_moveOut_X1_all
set_option maxRecDepth 20000 in
theorem ggX1_moveOut_X1_flow : GoodIn wsX1_moveOut wsX1_flow := goodIn_r _ [17, 18, 1, 19, 20, 21, 22] (by decide +kernel) (by decide +kernel)
set_option maxRecDepth 20000 in
theorem gX1_moveOut_X1_flow : GoodIn wsX1_moveOut (wsV RX1 38 RX1 yX1_flow wsX1_flow) := goodIn_app (goodIn_of _ (by decide +kernel)) ggX1_moveOut_X1_flow
theorem dX1_moveOut_0 : decode cX1_moveOut 0 = .ok (.aload_n 0, 1) := by decide +kernel
theorem dX1_moveOut_1 : decode cX1_moveOut 1 = .ok (.invokevirtual 32, 3) := by decide +kernel
theorem dX1_moveOut_4 : decode cX1_moveOut 4 = .ok (.istore_n 3, 1) := by decide +kernel
theorem dX1_moveOut_5 : decode cX1_moveOut 5 = .ok (.iload_n 3, 1) := by decide +kernel
theorem dX1_moveOut_6 : decode cX1_moveOut 6 = .ok (.ifCond .gt 4, 3) := by decide +kernel
theorem dX1_moveOut_9 : decode cX1_moveOut 9 = .ok (.return_, 1) := by decide +kernel
theorem dX1_moveOut_10 : decode cX1_moveOut 10 = .ok (.iconst 0, 1) := by decide +kernel
theorem dX1_moveOut_11 : decode cX1_moveOut 11 = .ok (.istore 4, 2) := by decide +kernel
theorem dX1_moveOut_13 : decode cX1_moveOut 13 = .ok (.iload 4, 2) := by decide +kernel
theorem dX1_moveOut_15 : decode cX1_moveOut 15 = .ok (.iconst 3, 1) := by decide +kernel
theorem dX1_moveOut_16 : decode cX1_moveOut 16 = .ok (.if_icmp .ge 60, 3) := by decide +kernel
theorem dX1_moveOut_19 : decode cX1_moveOut 19 = .ok (.aload_n 0, 1) := by decide +kernel
theorem dX1_moveOut_20 : decode cX1_moveOut 20 = .ok (.getfield 15, 3) := by decide +kernel
theorem dX1_moveOut_23 : decode cX1_moveOut 23 = .ok (.iload 4, 2) := by decide +kernel
theorem dX1_moveOut_25 : decode cX1_moveOut 25 = .ok (.iaload, 1) := by decide +kernel
theorem dX1_moveOut_26 : decode cX1_moveOut 26 = .ok (.i2l, 1) := by decide +kernel
theorem dX1_moveOut_27 : decode cX1_moveOut 27 = .ok (.aload_n 0, 1) := by decide +kernel
theorem dX1_moveOut_28 : decode cX1_moveOut 28 = .ok (.iload 4, 2) := by decide +kernel
theorem dX1_moveOut_30 : decode cX1_moveOut 30 = .ok (.invokevirtual 38, 3) := by decide +kernel
theorem dX1_moveOut_33 : decode cX1_moveOut 33 = .ok (.iload_n 1, 1) := by decide +kernel
theorem dX1_moveOut_34 : decode cX1_moveOut 34 = .ok (.iload_n 3, 1) := by decide +kernel
theorem dX1_moveOut_35 : decode cX1_moveOut 35 = .ok (.invokestatic 42, 3) := by decide +kernel
theorem dX1_moveOut_38 : decode cX1_moveOut 38 = .ok (.i2l, 1) := by decide +kernel
theorem dX1_moveOut_39 : decode cX1_moveOut 39 = .ok (.lmul, 1) := by decide +kernel
theorem dX1_moveOut_40 : decode cX1_moveOut 40 = .ok (.iload_n 3, 1) := by decide +kernel
theorem dX1_moveOut_41 : decode cX1_moveOut 41 = .ok (.i2l, 1) := by decide +kernel
theorem dX1_moveOut_42 : decode cX1_moveOut 42 = .ok (.ldiv, 1) := by decide +kernel
theorem dX1_moveOut_43 : decode cX1_moveOut 43 = .ok (.invokestatic 48, 3) := by decide +kernel
theorem dX1_moveOut_46 : decode cX1_moveOut 46 = .ok (.l2i, 1) := by decide +kernel
theorem dX1_moveOut_47 : decode cX1_moveOut 47 = .ok (.istore 5, 2) := by decide +kernel
theorem dX1_moveOut_49 : decode cX1_moveOut 49 = .ok (.aload_n 0, 1) := by decide +kernel
theorem dX1_moveOut_50 : decode cX1_moveOut 50 = .ok (.getfield 15, 3) := by decide +kernel
theorem dX1_moveOut_53 : decode cX1_moveOut 53 = .ok (.iload 4, 2) := by decide +kernel
theorem dX1_moveOut_55 : decode cX1_moveOut 55 = .ok (.dup2, 1) := by decide +kernel
theorem dX1_moveOut_56 : decode cX1_moveOut 56 = .ok (.iaload, 1) := by decide +kernel
theorem dX1_moveOut_57 : decode cX1_moveOut 57 = .ok (.iload 5, 2) := by decide +kernel
theorem dX1_moveOut_59 : decode cX1_moveOut 59 = .ok (.isub, 1) := by decide +kernel
theorem dX1_moveOut_60 : decode cX1_moveOut 60 = .ok (.iastore, 1) := by decide +kernel
theorem dX1_moveOut_61 : decode cX1_moveOut 61 = .ok (.aload_n 2, 1) := by decide +kernel
theorem dX1_moveOut_62 : decode cX1_moveOut 62 = .ok (.iload 4, 2) := by decide +kernel
theorem dX1_moveOut_64 : decode cX1_moveOut 64 = .ok (.dup2, 1) := by decide +kernel
theorem dX1_moveOut_65 : decode cX1_moveOut 65 = .ok (.iaload, 1) := by decide +kernel
theorem dX1_moveOut_66 : decode cX1_moveOut 66 = .ok (.iload 5, 2) := by decide +kernel
theorem dX1_moveOut_68 : decode cX1_moveOut 68 = .ok (.iadd, 1) := by decide +kernel
theorem dX1_moveOut_69 : decode cX1_moveOut 69 = .ok (.iastore, 1) := by decide +kernel
theorem dX1_moveOut_70 : decode cX1_moveOut 70 = .ok (.iinc 4 1, 3) := by decide +kernel
theorem dX1_moveOut_73 : decode cX1_moveOut 73 = .ok (.goto (-60), 3) := by decide +kernel
theorem dX1_moveOut_76 : decode cX1_moveOut 76 = .ok (.return_, 1) := by decide +kernel
set_option maxRecDepth 20000 in
theorem ggX2_init_X1_init : GoodIn wsX2_init wsX1_init := goodIn_r _ [18, 19, 2, 3, 20, 8, 21, 39, 40, 41, 42] (by decide +kernel) (by decide +kernel)
set_option maxRecDepth 20000 in
theorem gX2_init_X1_init_n37 : GoodIn wsX2_init (wsX1_init) := ggX2_init_X1_init
set_option maxRecDepth 20000 in
theorem ggX2_init_X4_init : GoodIn wsX2_init wsX4_init := goodIn_r _ [23, 24, 2, 3, 25, 8, 26, 43, 44, 45, 46, 47] (by decide +kernel) (by decide +kernel)
set_option maxRecDepth 20000 in
theorem gX2_init_X4_init_n38 : GoodIn wsX2_init (wsX4_init) := ggX2_init_X4_init
theorem dX2_init_0 : decode cX2_init 0 = .ok (.aload_n 0, 1) := by decide +kernel
theorem dX2_init_1 : decode cX2_init 1 = .ok (.invokespecial 3, 3) := by decide +kernel
theorem dX2_init_4 : decode cX2_init 4 = .ok (.aload_n 0, 1) := by decide +kernel
theorem dX2_init_5 : decode cX2_init 5 = .ok (.bipush 16, 2) := by decide +kernel
theorem dX2_init_7 : decode cX2_init 7 = .ok (.anewarray 9, 3) := by decide +kernel
theorem dX2_init_10 : decode cX2_init 10 = .ok (.putfield 11, 3) := by decide +kernel
theorem dX2_init_13 : decode cX2_init 13 = .ok (.aload_n 0, 1) := by decide +kernel
theorem dX2_init_14 : decode cX2_init 14 = .ok (.bipush 6, 2) := by decide +kernel
theorem dX2_init_16 : decode cX2_init 16 = .ok (.anewarray 17, 3) := by decide +kernel
theorem dX2_init_19 : decode cX2_init 19 = .ok (.putfield 19, 3) := by decide +kernel
theorem dX2_init_22 : decode cX2_init 22 = .ok (.aload_n 0, 1) := by decide +kernel
theorem dX2_init_23 : decode cX2_init 23 = .ok (.iconst 3, 1) := by decide +kernel
theorem dX2_init_24 : decode cX2_init 24 = .ok (.newarray .int, 2) := by decide +kernel
theorem dX2_init_26 : decode cX2_init 26 = .ok (.putfield 23, 3) := by decide +kernel
theorem dX2_init_29 : decode cX2_init 29 = .ok (.aload_n 0, 1) := by decide +kernel
theorem dX2_init_30 : decode cX2_init 30 = .ok (.bipush 10, 2) := by decide +kernel
theorem dX2_init_32 : decode cX2_init 32 = .ok (.putfield 27, 3) := by decide +kernel
theorem dX2_init_35 : decode cX2_init 35 = .ok (.aload_n 0, 1) := by decide +kernel
theorem dX2_init_36 : decode cX2_init 36 = .ok (.sipush 300, 3) := by decide +kernel
theorem dX2_init_39 : decode cX2_init 39 = .ok (.putfield 31, 3) := by decide +kernel
theorem dX2_init_42 : decode cX2_init 42 = .ok (.aload_n 0, 1) := by decide +kernel
theorem dX2_init_43 : decode cX2_init 43 = .ok (.iconst 3, 1) := by decide +kernel
theorem dX2_init_44 : decode cX2_init 44 = .ok (.newarray .int, 2) := by decide +kernel
theorem dX2_init_46 : decode cX2_init 46 = .ok (.putfield 34, 3) := by decide +kernel
theorem dX2_init_49 : decode cX2_init 49 = .ok (.iconst 0, 1) := by decide +kernel
theorem dX2_init_50 : decode cX2_init 50 = .ok (.istore_n 1, 1) := by decide +kernel
theorem dX2_init_51 : decode cX2_init 51 = .ok (.iload_n 1, 1) := by decide +kernel
theorem dX2_init_52 : decode cX2_init 52 = .ok (.bipush 16, 2) := by decide +kernel
theorem dX2_init_54 : decode cX2_init 54 = .ok (.if_icmp .ge 22, 3) := by decide +kernel
theorem dX2_init_57 : decode cX2_init 57 = .ok (.aload_n 0, 1) := by decide +kernel
theorem dX2_init_58 : decode cX2_init 58 = .ok (.getfield 11, 3) := by decide +kernel
theorem dX2_init_61 : decode cX2_init 61 = .ok (.iload_n 1, 1) := by decide +kernel
theorem dX2_init_62 : decode cX2_init 62 = .ok (.new 9, 3) := by decide +kernel
theorem dX2_init_65 : decode cX2_init 65 = .ok (.dup, 1) := by decide +kernel
theorem dX2_init_66 : decode cX2_init 66 = .ok (.invokespecial 37, 3) := by decide +kernel
theorem dX2_init_69 : decode cX2_init 69 = .ok (.aastore, 1) := by decide +kernel
theorem dX2_init_70 : decode cX2_init 70 = .ok (.iinc 1 1, 3) := by decide +kernel
theorem dX2_init_73 : decode cX2_init 73 = .ok (.goto (-22), 3) := by decide +kernel
theorem dX2_init_76 : decode cX2_init 76 = .ok (.iconst 0, 1) := by decide +kernel
theorem dX2_init_77 : decode cX2_init 77 = .ok (.istore_n 1, 1) := by decide +kernel
theorem dX2_init_78 : decode cX2_init 78 = .ok (.iload_n 1, 1) := by decide +kernel
theorem dX2_init_79 : decode cX2_init 79 = .ok (.bipush 6, 2) := by decide +kernel
theorem dX2_init_81 : decode cX2_init 81 = .ok (.if_icmp .ge 22, 3) := by decide +kernel
theorem dX2_init_84 : decode cX2_init 84 = .ok (.aload_n 0, 1) := by decide +kernel
theorem dX2_init_85 : decode cX2_init 85 = .ok (.getfield 19, 3) := by decide +kernel
theorem dX2_init_88 : decode cX2_init 88 = .ok (.iload_n 1, 1) := by decide +kernel
theorem dX2_init_89 : decode cX2_init 89 = .ok (.new 17, 3) := by decide +kernel
theorem dX2_init_92 : decode cX2_init 92 = .ok (.dup, 1) := by decide +kernel
theorem dX2_init_93 : decode cX2_init 93 = .ok (.invokespecial 38, 3) := by decide +kernel
theorem dX2_init_96 : decode cX2_init 96 = .ok (.aastore, 1) := by decide +kernel
theorem dX2_init_97 : decode cX2_init 97 = .ok (.iinc 1 1, 3) := by decide +kernel
theorem dX2_init_100 : decode cX2_init 100 = .ok (.goto (-22), 3) := by decide +kernel
theorem dX2_init_103 : decode cX2_init 103 = .ok (.iconst 0, 1) := by decide +kernel
theorem dX2_init_104 : decode cX2_init 104 = .ok (.istore_n 1, 1) := by decide +kernel
theorem dX2_init_105 : decode cX2_init 105 = .ok (.iload_n 1, 1) := by decide +kernel
theorem dX2_init_106 : decode cX2_init 106 = .ok (.iconst 3, 1) := by decide +kernel
theorem dX2_init_107 : decode cX2_init 107 = .ok (.if_icmp .ge 17, 3) := by decide +kernel
theorem dX2_init_110 : decode cX2_init 110 = .ok (.aload_n 0, 1) := by decide +kernel
theorem dX2_init_111 : decode cX2_init 111 = .ok (.getfield 23, 3) := by decide +kernel
theorem dX2_init_114 : decode cX2_init 114 = .ok (.iload_n 1, 1) := by decide +kernel
theorem dX2_init_115 : decode cX2_init 115 = .ok (.bipush 40, 2) := by decide +kernel
theorem dX2_init_117 : decode cX2_init 117 = .ok (.iastore, 1) := by decide +kernel
theorem dX2_init_118 : decode cX2_init 118 = .ok (.iinc 1 1, 3) := by decide +kernel
theorem dX2_init_121 : decode cX2_init 121 = .ok (.goto (-16), 3) := by decide +kernel
theorem dX2_init_124 : decode cX2_init 124 = .ok (.return_, 1) := by decide +kernel
set_option maxRecDepth 20000 in
theorem ggX2_take_X1_take : GoodIn wsX2_take wsX1_take := goodIn_r _ [16, 17, 18, 19, 6, 7, 8, 20, 21, 43, 44, 45, 46] (by decide +kernel) (by decide +kernel)
set_option maxRecDepth 20000 in
theorem gX2_take_X1_take : GoodIn wsX2_take (wsV RX2 39 RX1 yX1_take wsX1_take) := goodIn_app (goodIn_of _ (by decide +kernel)) ggX2_take_X1_take
set_option maxRecDepth 20000 in
theorem ggX2_take_X4_take : GoodIn wsX2_take wsX4_take := goodIn_r _ [26, 27, 28, 29, 30, 47, 48, 49, 50, 51] (by decide +kernel) (by decide +kernel)
set_option maxRecDepth 20000 in
theorem gX2_take_X4_take : GoodIn wsX2_take (wsV RX2 43 RX4 yX4_take wsX4_take) := goodIn_app (goodIn_of _ (by decide +kernel)) ggX2_take_X4_take
theorem dX2_take_0 : decode cX2_take 0 = .ok (.iconst 0, 1) := by decide +kernel
theorem dX2_take_1 : decode cX2_take 1 = .ok (.istore_n 2, 1) := by decide +kernel
theorem dX2_take_2 : decode cX2_take 2 = .ok (.iload_n 2, 1) := by decide +kernel
theorem dX2_take_3 : decode cX2_take 3 = .ok (.bipush 16, 2) := by decide +kernel
theorem dX2_take_5 : decode cX2_take 5 = .ok (.if_icmp .ge 24, 3) := by decide +kernel
theorem dX2_take_8 : decode cX2_take 8 = .ok (.aload_n 0, 1) := by decide +kernel
theorem dX2_take_9 : decode cX2_take 9 = .ok (.getfield 11, 3) := by decide +kernel
theorem dX2_take_12 : decode cX2_take 12 = .ok (.iload_n 2, 1) := by decide +kernel
theorem dX2_take_13 : decode cX2_take 13 = .ok (.aaload, 1) := by decide +kernel
theorem dX2_take_14 : decode cX2_take 14 = .ok (.aload_n 1, 1) := by decide +kernel
theorem dX2_take_15 : decode cX2_take 15 = .ok (.getfield 11, 3) := by decide +kernel
theorem dX2_take_18 : decode cX2_take 18 = .ok (.iload_n 2, 1) := by decide +kernel
theorem dX2_take_19 : decode cX2_take 19 = .ok (.aaload, 1) := by decide +kernel
theorem dX2_take_20 : decode cX2_take 20 = .ok (.invokevirtual 39, 3) := by decide +kernel
theorem dX2_take_23 : decode cX2_take 23 = .ok (.iinc 2 1, 3) := by decide +kernel
theorem dX2_take_26 : decode cX2_take 26 = .ok (.goto (-24), 3) := by decide +kernel
theorem dX2_take_29 : decode cX2_take 29 = .ok (.iconst 0, 1) := by decide +kernel
theorem dX2_take_30 : decode cX2_take 30 = .ok (.istore_n 2, 1) := by decide +kernel
theorem dX2_take_31 : decode cX2_take 31 = .ok (.iload_n 2, 1) := by decide +kernel
theorem dX2_take_32 : decode cX2_take 32 = .ok (.bipush 6, 2) := by decide +kernel
theorem dX2_take_34 : decode cX2_take 34 = .ok (.if_icmp .ge 24, 3) := by decide +kernel
theorem dX2_take_37 : decode cX2_take 37 = .ok (.aload_n 0, 1) := by decide +kernel
theorem dX2_take_38 : decode cX2_take 38 = .ok (.getfield 19, 3) := by decide +kernel
theorem dX2_take_41 : decode cX2_take 41 = .ok (.iload_n 2, 1) := by decide +kernel
theorem dX2_take_42 : decode cX2_take 42 = .ok (.aaload, 1) := by decide +kernel
theorem dX2_take_43 : decode cX2_take 43 = .ok (.aload_n 1, 1) := by decide +kernel
theorem dX2_take_44 : decode cX2_take 44 = .ok (.getfield 19, 3) := by decide +kernel
theorem dX2_take_47 : decode cX2_take 47 = .ok (.iload_n 2, 1) := by decide +kernel
theorem dX2_take_48 : decode cX2_take 48 = .ok (.aaload, 1) := by decide +kernel
theorem dX2_take_49 : decode cX2_take 49 = .ok (.invokevirtual 43, 3) := by decide +kernel
theorem dX2_take_52 : decode cX2_take 52 = .ok (.iinc 2 1, 3) := by decide +kernel
theorem dX2_take_55 : decode cX2_take 55 = .ok (.goto (-24), 3) := by decide +kernel
theorem dX2_take_58 : decode cX2_take 58 = .ok (.aload_n 0, 1) := by decide +kernel
theorem dX2_take_59 : decode cX2_take 59 = .ok (.aload_n 1, 1) := by decide +kernel
theorem dX2_take_60 : decode cX2_take 60 = .ok (.getfield 46, 3) := by decide +kernel
theorem dX2_take_63 : decode cX2_take 63 = .ok (.putfield 46, 3) := by decide +kernel
theorem dX2_take_66 : decode cX2_take 66 = .ok (.aload_n 1, 1) := by decide +kernel
theorem dX2_take_67 : decode cX2_take 67 = .ok (.getfield 23, 3) := by decide +kernel
theorem dX2_take_70 : decode cX2_take 70 = .ok (.iconst 0, 1) := by decide +kernel
theorem dX2_take_71 : decode cX2_take 71 = .ok (.aload_n 0, 1) := by decide +kernel
theorem dX2_take_72 : decode cX2_take 72 = .ok (.getfield 23, 3) := by decide +kernel
theorem dX2_take_75 : decode cX2_take 75 = .ok (.iconst 0, 1) := by decide +kernel
theorem dX2_take_76 : decode cX2_take 76 = .ok (.iconst 3, 1) := by decide +kernel
theorem dX2_take_77 : decode cX2_take 77 = .ok (.invokestatic 49, 3) := by decide +kernel
theorem dX2_take_80 : decode cX2_take 80 = .ok (.aload_n 0, 1) := by decide +kernel
theorem dX2_take_81 : decode cX2_take 81 = .ok (.aload_n 1, 1) := by decide +kernel
theorem dX2_take_82 : decode cX2_take 82 = .ok (.getfield 27, 3) := by decide +kernel
theorem dX2_take_85 : decode cX2_take 85 = .ok (.putfield 27, 3) := by decide +kernel
theorem dX2_take_88 : decode cX2_take 88 = .ok (.aload_n 0, 1) := by decide +kernel
theorem dX2_take_89 : decode cX2_take 89 = .ok (.aload_n 1, 1) := by decide +kernel
theorem dX2_take_90 : decode cX2_take 90 = .ok (.getfield 31, 3) := by decide +kernel
theorem dX2_take_93 : decode cX2_take 93 = .ok (.putfield 31, 3) := by decide +kernel
theorem dX2_take_96 : decode cX2_take 96 = .ok (.aload_n 0, 1) := by decide +kernel
theorem dX2_take_97 : decode cX2_take 97 = .ok (.aload_n 1, 1) := by decide +kernel
theorem dX2_take_98 : decode cX2_take 98 = .ok (.getfield 55, 3) := by decide +kernel
theorem dX2_take_101 : decode cX2_take 101 = .ok (.putfield 55, 3) := by decide +kernel
theorem dX2_take_104 : decode cX2_take 104 = .ok (.return_, 1) := by decide +kernel
theorem dX2_inAllCells_0 : decode cX2_inAllCells 0 = .ok (.iconst 0, 1) := by decide +kernel
theorem dX2_inAllCells_1 : decode cX2_inAllCells 1 = .ok (.istore_n 2, 1) := by decide +kernel
theorem dX2_inAllCells_2 : decode cX2_inAllCells 2 = .ok (.iconst 0, 1) := by decide +kernel
theorem dX2_inAllCells_3 : decode cX2_inAllCells 3 = .ok (.istore_n 3, 1) := by decide +kernel
theorem dX2_inAllCells_4 : decode cX2_inAllCells 4 = .ok (.iload_n 3, 1) := by decide +kernel
theorem dX2_inAllCells_5 : decode cX2_inAllCells 5 = .ok (.bipush 16, 2) := by decide +kernel
theorem dX2_inAllCells_7 : decode cX2_inAllCells 7 = .ok (.if_icmp .ge 23, 3) := by decide +kernel
theorem dX2_inAllCells_10 : decode cX2_inAllCells 10 = .ok (.iload_n 2, 1) := by decide +kernel
theorem dX2_inAllCells_11 : decode cX2_inAllCells 11 = .ok (.aload_n 0, 1) := by decide +kernel
theorem dX2_inAllCells_12 : decode cX2_inAllCells 12 = .ok (.getfield 11, 3) := by decide +kernel
theorem dX2_inAllCells_15 : decode cX2_inAllCells 15 = .ok (.iload_n 3, 1) := by decide +kernel
theorem dX2_inAllCells_16 : decode cX2_inAllCells 16 = .ok (.aaload, 1) := by decide +kernel
theorem dX2_inAllCells_17 : decode cX2_inAllCells 17 = .ok (.getfield 58, 3) := by decide +kernel
theorem dX2_inAllCells_20 : decode cX2_inAllCells 20 = .ok (.iload_n 1, 1) := by decide +kernel
theorem dX2_inAllCells_21 : decode cX2_inAllCells 21 = .ok (.iaload, 1) := by decide +kernel
theorem dX2_inAllCells_22 : decode cX2_inAllCells 22 = .ok (.iadd, 1) := by decide +kernel
theorem dX2_inAllCells_23 : decode cX2_inAllCells 23 = .ok (.istore_n 2, 1) := by decide +kernel
theorem dX2_inAllCells_24 : decode cX2_inAllCells 24 = .ok (.iinc 3 1, 3) := by decide +kernel
theorem dX2_inAllCells_27 : decode cX2_inAllCells 27 = .ok (.goto (-23), 3) := by decide +kernel
theorem dX2_inAllCells_30 : decode cX2_inAllCells 30 = .ok (.iload_n 2, 1) := by decide +kernel
theorem dX2_inAllCells_31 : decode cX2_inAllCells 31 = .ok (.ireturn, 1) := by decide +kernel
set_option maxRecDepth 20000 in
theorem ggX2_faults_X1_isShut : GoodIn wsX2_faults wsX1_isShut := goodIn_r _ [6, 7, 8, 21, 22, 23, 24] (by decide +kernel) (by decide +kernel)
set_option maxRecDepth 20000 in
theorem gX2_faults_X1_isShut : GoodIn wsX2_faults (wsV RX2 61 RX1 yX1_isShut wsX1_isShut) := goodIn_app (goodIn_of _ (by decide +kernel)) ggX2_faults_X1_isShut
theorem dX2_faults_0 : decode cX2_faults 0 = .ok (.iconst 0, 1) := by decide +kernel
theorem dX2_faults_1 : decode cX2_faults 1 = .ok (.istore_n 1, 1) := by decide +kernel
theorem dX2_faults_2 : decode cX2_faults 2 = .ok (.iconst 0, 1) := by decide +kernel
theorem dX2_faults_3 : decode cX2_faults 3 = .ok (.istore_n 2, 1) := by decide +kernel
theorem dX2_faults_4 : decode cX2_faults 4 = .ok (.iload_n 2, 1) := by decide +kernel
theorem dX2_faults_5 : decode cX2_faults 5 = .ok (.bipush 16, 2) := by decide +kernel
theorem dX2_faults_7 : decode cX2_faults 7 = .ok (.if_icmp .ge 51, 3) := by decide +kernel
theorem dX2_faults_10 : decode cX2_faults 10 = .ok (.iload_n 1, 1) := by decide +kernel
theorem dX2_faults_11 : decode cX2_faults 11 = .ok (.aload_n 0, 1) := by decide +kernel
theorem dX2_faults_12 : decode cX2_faults 12 = .ok (.getfield 11, 3) := by decide +kernel
theorem dX2_faults_15 : decode cX2_faults 15 = .ok (.iload_n 2, 1) := by decide +kernel
theorem dX2_faults_16 : decode cX2_faults 16 = .ok (.aaload, 1) := by decide +kernel
theorem dX2_faults_17 : decode cX2_faults 17 = .ok (.iconst 1, 1) := by decide +kernel
theorem dX2_faults_18 : decode cX2_faults 18 = .ok (.invokevirtual 61, 3) := by decide +kernel
theorem dX2_faults_21 : decode cX2_faults 21 = .ok (.ifCond .eq 7, 3) := by decide +kernel
theorem dX2_faults_24 : decode cX2_faults 24 = .ok (.iconst 1, 1) := by decide +kernel
theorem dX2_faults_25 : decode cX2_faults 25 = .ok (.goto 4, 3) := by decide +kernel
theorem dX2_faults_28 : decode cX2_faults 28 = .ok (.iconst 0, 1) := by decide +kernel
theorem dX2_faults_29 : decode cX2_faults 29 = .ok (.iadd, 1) := by decide +kernel
theorem dX2_faults_30 : decode cX2_faults 30 = .ok (.istore_n 1, 1) := by decide +kernel
theorem dX2_faults_31 : decode cX2_faults 31 = .ok (.iload_n 1, 1) := by decide +kernel
theorem dX2_faults_32 : decode cX2_faults 32 = .ok (.aload_n 0, 1) := by decide +kernel
theorem dX2_faults_33 : decode cX2_faults 33 = .ok (.getfield 11, 3) := by decide +kernel
theorem dX2_faults_36 : decode cX2_faults 36 = .ok (.iload_n 2, 1) := by decide +kernel
theorem dX2_faults_37 : decode cX2_faults 37 = .ok (.aaload, 1) := by decide +kernel
theorem dX2_faults_38 : decode cX2_faults 38 = .ok (.iconst 0, 1) := by decide +kernel
theorem dX2_faults_39 : decode cX2_faults 39 = .ok (.invokevirtual 61, 3) := by decide +kernel
theorem dX2_faults_42 : decode cX2_faults 42 = .ok (.ifCond .eq 7, 3) := by decide +kernel
theorem dX2_faults_45 : decode cX2_faults 45 = .ok (.iconst 1, 1) := by decide +kernel
theorem dX2_faults_46 : decode cX2_faults 46 = .ok (.goto 4, 3) := by decide +kernel
theorem dX2_faults_49 : decode cX2_faults 49 = .ok (.iconst 0, 1) := by decide +kernel
theorem dX2_faults_50 : decode cX2_faults 50 = .ok (.iadd, 1) := by decide +kernel
theorem dX2_faults_51 : decode cX2_faults 51 = .ok (.istore_n 1, 1) := by decide +kernel
theorem dX2_faults_52 : decode cX2_faults 52 = .ok (.iinc 2 1, 3) := by decide +kernel
theorem dX2_faults_55 : decode cX2_faults 55 = .ok (.goto (-51), 3) := by decide +kernel
theorem dX2_faults_58 : decode cX2_faults 58 = .ok (.iload_n 1, 1) := by decide +kernel
theorem dX2_faults_59 : decode cX2_faults 59 = .ok (.ireturn, 1) := by decide +kernel
set_option maxRecDepth 20000 in
theorem ggX2_passMonths_X2_passMonth : GoodIn wsX2_passMonths wsX2_passMonth := goodIn_r _ [5, 6, 7, 8, 9, 10, 11, 12, 13, 4, 14, 15, 16, 17, 18, 19, 20, 21, 22, 23, 24, 25, 26, 27, 28, 29, 30, 31, 32, 33, 34, 35, 36, 37, 38, 39, 40, 41, 42, 43, 44, 45, 46, 47, 48, 49, 50, 51, 52, 53, 54, 55, 56, 57, 58, 59, 60, 61, 62, 63, 64, 65, 66, 67, 68, 69, 70, 71, 72, 73, 74, 75, 76, 77, 78, 79, 80, 81, 82, 83, 84, 85, 86, 87, 88, 89, 90, 91, 92, 93, 94, 95, 96, 97, 98, 99, 100, 101, 102, 103, 104, 105, 106, 107, 108, 109, 110, 111, 112, 113, 114, 115, 116, 117, 118, 119, 120, 121, 122] (by decide +kernel) (by decide +kernel)
set_option maxRecDepth 20000 in
theorem gX2_passMonths_X2_passMonth : GoodIn wsX2_passMonths (wsV RX2 65 RX2 yX2_passMonth wsX2_passMonth) := goodIn_app (goodIn_of _ (by decide +kernel)) ggX2_passMonths_X2_passMonth
theorem dX2_passMonths_0 : decode cX2_passMonths 0 = .ok (.iconst 0, 1) := by decide +kernel
theorem dX2_passMonths_1 : decode cX2_passMonths 1 = .ok (.istore_n 2, 1) := by decide +kernel
theorem dX2_passMonths_2 : decode cX2_passMonths 2 = .ok (.iconst 0, 1) := by decide +kernel
theorem dX2_passMonths_3 : decode cX2_passMonths 3 = .ok (.istore_n 3, 1) := by decide +kernel
theorem dX2_passMonths_4 : decode cX2_passMonths 4 = .ok (.iload_n 3, 1) := by decide +kernel
theorem dX2_passMonths_5 : decode cX2_passMonths 5 = .ok (.iload_n 1, 1) := by decide +kernel
theorem dX2_passMonths_6 : decode cX2_passMonths 6 = .ok (.if_icmp .ge 16, 3) := by decide +kernel
theorem dX2_passMonths_9 : decode cX2_passMonths 9 = .ok (.iload_n 2, 1) := by decide +kernel
theorem dX2_passMonths_10 : decode cX2_passMonths 10 = .ok (.aload_n 0, 1) := by decide +kernel
theorem dX2_passMonths_11 : decode cX2_passMonths 11 = .ok (.invokevirtual 65, 3) := by decide +kernel
theorem dX2_passMonths_14 : decode cX2_passMonths 14 = .ok (.iadd, 1) := by decide +kernel
theorem dX2_passMonths_15 : decode cX2_passMonths 15 = .ok (.istore_n 2, 1) := by decide +kernel
theorem dX2_passMonths_16 : decode cX2_passMonths 16 = .ok (.iinc 3 1, 3) := by decide +kernel
theorem dX2_passMonths_19 : decode cX2_passMonths 19 = .ok (.goto (-15), 3) := by decide +kernel
theorem dX2_passMonths_22 : decode cX2_passMonths 22 = .ok (.iload_n 2, 1) := by decide +kernel
theorem dX2_passMonths_23 : decode cX2_passMonths 23 = .ok (.ireturn, 1) := by decide +kernel
set_option maxRecDepth 20000 in
theorem ggX2_passMonth_X2_startMonth : GoodIn wsX2_passMonth wsX2_startMonth := goodIn_r _ [10, 5, 11, 12, 13, 14, 1, 2, 3, 15, 16, 17, 18, 19, 20, 21, 98, 99, 100, 101, 102, 103, 104, 105, 106, 107, 108, 109, 110, 111, 112, 113, 114] (by decide +kernel) (by decide +kernel)
set_option maxRecDepth 20000 in
theorem gX2_passMonth_X2_startMonth : GoodIn wsX2_passMonth (wsV RX2 69 RX2 yX2_startMonth wsX2_startMonth) := goodIn_app (goodIn_of _ (by decide +kernel)) ggX2_passMonth_X2_startMonth
set_option maxRecDepth 20000 in
theorem ggX2_passMonth_X2_produce : GoodIn wsX2_passMonth wsX2_produce := goodIn_r _ [25, 26, 27, 28, 29, 30, 31, 15, 32, 33, 34, 35, 5, 36, 37, 38, 39, 40, 41, 42, 43, 44, 45, 46, 47, 48, 49, 50, 9, 51, 52, 53, 14, 54, 55, 56, 57, 58, 59, 60, 61, 62, 63, 64, 65, 66, 67, 68, 69, 70, 98, 99, 100, 101, 102, 103, 104, 105, 106, 107, 108, 109, 110, 111, 112, 113, 114, 115, 116, 117, 118] (by decide +kernel) (by decide +kernel)
set_option maxRecDepth 20000 in
theorem gX2_passMonth_X2_produce : GoodIn wsX2_passMonth (wsV RX2 78 RX2 yX2_produce wsX2_produce) := goodIn_app (goodIn_of _ (by decide +kernel)) ggX2_passMonth_X2_produce
set_option maxRecDepth 20000 in
theorem ggX2_passMonth_X2_putGasBack : GoodIn wsX2_passMonth wsX2_putGasBack := goodIn_r _ [74, 5, 1, 2, 3, 15, 32, 33, 30, 34, 11, 75, 76, 77, 78, 9, 79, 26, 27, 80, 35, 98, 99, 100, 101, 102, 103, 104, 105, 106, 107, 108, 109, 110, 111, 112, 113, 114, 115, 116, 117, 118] (by decide +kernel) (by decide +kernel)
set_option maxRecDepth 20000 in
theorem gX2_passMonth_X2_putGasBack : GoodIn wsX2_passMonth (wsV RX2 81 RX2 yX2_putGasBack wsX2_putGasBack) := goodIn_app (goodIn_of _ (by decide +kernel)) ggX2_passMonth_X2_putGasBack
set_option maxRecDepth 20000 in
theorem ggX2_passMonth_X2_putWaterIn : GoodIn wsX2_passMonth wsX2_putWaterIn := goodIn_r _ [84, 1, 2, 3, 26, 27, 15, 12, 37, 38, 39, 40, 41, 42, 43, 44, 45, 46, 47, 76, 77, 78, 9, 79, 80, 35, 98, 99, 100, 101, 102, 103, 104, 105, 106, 107, 108, 109, 110, 111, 112, 113, 114, 115, 116, 117, 118] (by decide +kernel) (by decide +kernel)
set_option maxRecDepth 20000 in
theorem gX2_passMonth_X2_putWaterIn : GoodIn wsX2_passMonth (wsV RX2 84 RX2 yX2_putWaterIn wsX2_putWaterIn) := goodIn_app (goodIn_of _ (by decide +kernel)) ggX2_passMonth_X2_putWaterIn
set_option maxRecDepth 20000 in
theorem ggX2_passMonth_X2_evenOut : GoodIn wsX2_passMonth wsX2_evenOut := goodIn_r _ [88, 26, 80, 89, 90, 91, 92, 93, 94, 40, 95, 96, 97, 37, 38, 39, 41, 42, 43, 44, 45, 46, 47, 63, 64, 65, 66, 67, 33, 30, 34, 68, 69, 70, 58, 59, 60, 61, 62, 98, 99, 100, 101, 102, 103, 104, 105, 106, 107, 108, 109, 115, 116, 117, 118] (by decide +kernel) (by decide +kernel)
set_option maxRecDepth 20000 in
theorem gX2_passMonth_X2_evenOut : GoodIn wsX2_passMonth (wsV RX2 87 RX2 yX2_evenOut wsX2_evenOut) := goodIn_app (goodIn_of _ (by decide +kernel)) ggX2_passMonth_X2_evenOut
theorem dX2_passMonth_0 : decode cX2_passMonth 0 = .ok (.aload_n 0, 1) := by decide +kernel
theorem dX2_passMonth_1 : decode cX2_passMonth 1 = .ok (.invokevirtual 69, 3) := by decide +kernel
theorem dX2_passMonth_4 : decode cX2_passMonth 4 = .ok (.iconst 1, 1) := by decide +kernel
theorem dX2_passMonth_5 : decode cX2_passMonth 5 = .ok (.istore_n 1, 1) := by decide +kernel
theorem dX2_passMonth_6 : decode cX2_passMonth 6 = .ok (.iload_n 1, 1) := by decide +kernel
theorem dX2_passMonth_7 : decode cX2_passMonth 7 = .ok (.bipush 9, 2) := by decide +kernel
theorem dX2_passMonth_9 : decode cX2_passMonth 9 = .ok (.if_icmp .gt 60, 3) := by decide +kernel
theorem dX2_passMonth_12 : decode cX2_passMonth 12 = .ok (.iconst 0, 1) := by decide +kernel
theorem dX2_passMonth_13 : decode cX2_passMonth 13 = .ok (.istore_n 2, 1) := by decide +kernel
theorem dX2_passMonth_14 : decode cX2_passMonth 14 = .ok (.iload_n 2, 1) := by decide +kernel
theorem dX2_passMonth_15 : decode cX2_passMonth 15 = .ok (.aload_n 0, 1) := by decide +kernel
theorem dX2_passMonth_16 : decode cX2_passMonth 16 = .ok (.getfield 46, 3) := by decide +kernel
theorem dX2_passMonth_19 : decode cX2_passMonth 19 = .ok (.if_icmp .ge 44, 3) := by decide +kernel
theorem dX2_passMonth_22 : decode cX2_passMonth 22 = .ok (.aload_n 0, 1) := by decide +kernel
theorem dX2_passMonth_23 : decode cX2_passMonth 23 = .ok (.getfield 19, 3) := by decide +kernel
theorem dX2_passMonth_26 : decode cX2_passMonth 26 = .ok (.iload_n 2, 1) := by decide +kernel
theorem dX2_passMonth_27 : decode cX2_passMonth 27 = .ok (.aaload, 1) := by decide +kernel
theorem dX2_passMonth_28 : decode cX2_passMonth 28 = .ok (.getfield 72, 3) := by decide +kernel
theorem dX2_passMonth_31 : decode cX2_passMonth 31 = .ok (.ifCond .ne 26, 3) := by decide +kernel
theorem dX2_passMonth_34 : decode cX2_passMonth 34 = .ok (.aload_n 0, 1) := by decide +kernel
theorem dX2_passMonth_35 : decode cX2_passMonth 35 = .ok (.getfield 19, 3) := by decide +kernel
theorem dX2_passMonth_38 : decode cX2_passMonth 38 = .ok (.iload_n 2, 1) := by decide +kernel
theorem dX2_passMonth_39 : decode cX2_passMonth 39 = .ok (.aaload, 1) := by decide +kernel
theorem dX2_passMonth_40 : decode cX2_passMonth 40 = .ok (.getfield 75, 3) := by decide +kernel
theorem dX2_passMonth_43 : decode cX2_passMonth 43 = .ok (.iload_n 1, 1) := by decide +kernel
theorem dX2_passMonth_44 : decode cX2_passMonth 44 = .ok (.if_icmp .ne 13, 3) := by decide +kernel
theorem dX2_passMonth_47 : decode cX2_passMonth 47 = .ok (.aload_n 0, 1) := by decide +kernel
theorem dX2_passMonth_48 : decode cX2_passMonth 48 = .ok (.aload_n 0, 1) := by decide +kernel
theorem dX2_passMonth_49 : decode cX2_passMonth 49 = .ok (.getfield 19, 3) := by decide +kernel
theorem dX2_passMonth_52 : decode cX2_passMonth 52 = .ok (.iload_n 2, 1) := by decide +kernel
theorem dX2_passMonth_53 : decode cX2_passMonth 53 = .ok (.aaload, 1) := by decide +kernel
theorem dX2_passMonth_54 : decode cX2_passMonth 54 = .ok (.invokevirtual 78, 3) := by decide +kernel
theorem dX2_passMonth_57 : decode cX2_passMonth 57 = .ok (.iinc 2 1, 3) := by decide +kernel
theorem dX2_passMonth_60 : decode cX2_passMonth 60 = .ok (.goto (-46), 3) := by decide +kernel
theorem dX2_passMonth_63 : decode cX2_passMonth 63 = .ok (.iinc 1 1, 3) := by decide +kernel
theorem dX2_passMonth_66 : decode cX2_passMonth 66 = .ok (.goto (-60), 3) := by decide +kernel
theorem dX2_passMonth_69 : decode cX2_passMonth 69 = .ok (.aload_n 0, 1) := by decide +kernel
theorem dX2_passMonth_70 : decode cX2_passMonth 70 = .ok (.invokevirtual 81, 3) := by decide +kernel
theorem dX2_passMonth_73 : decode cX2_passMonth 73 = .ok (.aload_n 0, 1) := by decide +kernel
theorem dX2_passMonth_74 : decode cX2_passMonth 74 = .ok (.invokevirtual 84, 3) := by decide +kernel
theorem dX2_passMonth_77 : decode cX2_passMonth 77 = .ok (.iconst 0, 1) := by decide +kernel
theorem dX2_passMonth_78 : decode cX2_passMonth 78 = .ok (.istore_n 1, 1) := by decide +kernel
theorem dX2_passMonth_79 : decode cX2_passMonth 79 = .ok (.iload_n 1, 1) := by decide +kernel
theorem dX2_passMonth_80 : decode cX2_passMonth 80 = .ok (.bipush 16, 2) := by decide +kernel
theorem dX2_passMonth_82 : decode cX2_passMonth 82 = .ok (.if_icmp .ge 21, 3) := by decide +kernel
theorem dX2_passMonth_85 : decode cX2_passMonth 85 = .ok (.aload_n 0, 1) := by decide +kernel
theorem dX2_passMonth_86 : decode cX2_passMonth 86 = .ok (.iload_n 1, 1) := by decide +kernel
theorem dX2_passMonth_87 : decode cX2_passMonth 87 = .ok (.iconst 1, 1) := by decide +kernel
theorem dX2_passMonth_88 : decode cX2_passMonth 88 = .ok (.invokevirtual 87, 3) := by decide +kernel
theorem dX2_passMonth_91 : decode cX2_passMonth 91 = .ok (.aload_n 0, 1) := by decide +kernel
theorem dX2_passMonth_92 : decode cX2_passMonth 92 = .ok (.iload_n 1, 1) := by decide +kernel
theorem dX2_passMonth_93 : decode cX2_passMonth 93 = .ok (.iconst 0, 1) := by decide +kernel
theorem dX2_passMonth_94 : decode cX2_passMonth 94 = .ok (.invokevirtual 87, 3) := by decide +kernel
theorem dX2_passMonth_97 : decode cX2_passMonth 97 = .ok (.iinc 1 1, 3) := by decide +kernel
theorem dX2_passMonth_100 : decode cX2_passMonth 100 = .ok (.goto (-21), 3) := by decide +kernel
theorem dX2_passMonth_103 : decode cX2_passMonth 103 = .ok (.aload_n 0, 1) := by decide +kernel
theorem dX2_passMonth_104 : decode cX2_passMonth 104 = .ok (.getfield 34, 3) := by decide +kernel
theorem dX2_passMonth_107 : decode cX2_passMonth 107 = .ok (.iconst 0, 1) := by decide +kernel
theorem dX2_passMonth_108 : decode cX2_passMonth 108 = .ok (.iaload, 1) := by decide +kernel
theorem dX2_passMonth_109 : decode cX2_passMonth 109 = .ok (.ireturn, 1) := by decide +kernel
set_option maxRecDepth 20000 in
theorem ggX2_startMonth_X4_forgetMonth : GoodIn wsX2_startMonth wsX4_forgetMonth := goodIn_r _ [14, 15, 28, 29, 30, 31, 32] (by decide +kernel) (by decide +kernel)
set_option maxRecDepth 20000 in
theorem gX2_startMonth_X4_forgetMonth : GoodIn wsX2_startMonth (wsV RX2 100 RX4 yX4_forgetMonth wsX4_forgetMonth) := goodIn_app (goodIn_of _ (by decide +kernel)) ggX2_startMonth_X4_forgetMonth
theorem dX2_startMonth_0 : decode cX2_startMonth 0 = .ok (.iconst 0, 1) := by decide +kernel
theorem dX2_startMonth_1 : decode cX2_startMonth 1 = .ok (.istore_n 1, 1) := by decide +kernel
theorem dX2_startMonth_2 : decode cX2_startMonth 2 = .ok (.iload_n 1, 1) := by decide +kernel
theorem dX2_startMonth_3 : decode cX2_startMonth 3 = .ok (.iconst 3, 1) := by decide +kernel
theorem dX2_startMonth_4 : decode cX2_startMonth 4 = .ok (.if_icmp .ge 16, 3) := by decide +kernel
theorem dX2_startMonth_7 : decode cX2_startMonth 7 = .ok (.aload_n 0, 1) := by decide +kernel
theorem dX2_startMonth_8 : decode cX2_startMonth 8 = .ok (.getfield 34, 3) := by decide +kernel
theorem dX2_startMonth_11 : decode cX2_startMonth 11 = .ok (.iload_n 1, 1) := by decide +kernel
theorem dX2_startMonth_12 : decode cX2_startMonth 12 = .ok (.iconst 0, 1) := by decide +kernel
theorem dX2_startMonth_13 : decode cX2_startMonth 13 = .ok (.iastore, 1) := by decide +kernel
theorem dX2_startMonth_14 : decode cX2_startMonth 14 = .ok (.iinc 1 1, 3) := by decide +kernel
theorem dX2_startMonth_17 : decode cX2_startMonth 17 = .ok (.goto (-15), 3) := by decide +kernel
theorem dX2_startMonth_20 : decode cX2_startMonth 20 = .ok (.aload_n 0, 1) := by decide +kernel
theorem dX2_startMonth_21 : decode cX2_startMonth 21 = .ok (.iconst 0, 1) := by decide +kernel
theorem dX2_startMonth_22 : decode cX2_startMonth 22 = .ok (.putfield 91, 3) := by decide +kernel
theorem dX2_startMonth_25 : decode cX2_startMonth 25 = .ok (.aload_n 0, 1) := by decide +kernel
theorem dX2_startMonth_26 : decode cX2_startMonth 26 = .ok (.iconst 0, 1) := by decide +kernel
theorem dX2_startMonth_27 : decode cX2_startMonth 27 = .ok (.putfield 94, 3) := by decide +kernel
theorem dX2_startMonth_30 : decode cX2_startMonth 30 = .ok (.aload_n 0, 1) := by decide +kernel
theorem dX2_startMonth_31 : decode cX2_startMonth 31 = .ok (.aload_n 0, 1) := by decide +kernel
theorem dX2_startMonth_32 : decode cX2_startMonth 32 = .ok (.getfield 27, 3) := by decide +kernel
theorem dX2_startMonth_35 : decode cX2_startMonth 35 = .ok (.putfield 97, 3) := by decide +kernel
theorem dX2_startMonth_38 : decode cX2_startMonth 38 = .ok (.iconst 0, 1) := by decide +kernel
theorem dX2_startMonth_39 : decode cX2_startMonth 39 = .ok (.istore_n 1, 1) := by decide +kernel
theorem dX2_startMonth_40 : decode cX2_startMonth 40 = .ok (.iload_n 1, 1) := by decide +kernel
theorem dX2_startMonth_41 : decode cX2_startMonth 41 = .ok (.aload_n 0, 1) := by decide +kernel
theorem dX2_startMonth_42 : decode cX2_startMonth 42 = .ok (.getfield 46, 3) := by decide +kernel
theorem dX2_startMonth_45 : decode cX2_startMonth 45 = .ok (.if_icmp .ge 51, 3) := by decide +kernel
theorem dX2_startMonth_48 : decode cX2_startMonth 48 = .ok (.aload_n 0, 1) := by decide +kernel
theorem dX2_startMonth_49 : decode cX2_startMonth 49 = .ok (.getfield 19, 3) := by decide +kernel
theorem dX2_startMonth_52 : decode cX2_startMonth 52 = .ok (.iload_n 1, 1) := by decide +kernel
theorem dX2_startMonth_53 : decode cX2_startMonth 53 = .ok (.aaload, 1) := by decide +kernel
theorem dX2_startMonth_54 : decode cX2_startMonth 54 = .ok (.invokevirtual 100, 3) := by decide +kernel
theorem dX2_startMonth_57 : decode cX2_startMonth 57 = .ok (.aload_n 0, 1) := by decide +kernel
theorem dX2_startMonth_58 : decode cX2_startMonth 58 = .ok (.getfield 19, 3) := by decide +kernel
theorem dX2_startMonth_61 : decode cX2_startMonth 61 = .ok (.iload_n 1, 1) := by decide +kernel
theorem dX2_startMonth_62 : decode cX2_startMonth 62 = .ok (.aaload, 1) := by decide +kernel
theorem dX2_startMonth_63 : decode cX2_startMonth 63 = .ok (.getfield 72, 3) := by decide +kernel
theorem dX2_startMonth_66 : decode cX2_startMonth 66 = .ok (.iconst 2, 1) := by decide +kernel
theorem dX2_startMonth_67 : decode cX2_startMonth 67 = .ok (.if_icmp .ne 23, 3) := by decide +kernel
theorem dX2_startMonth_70 : decode cX2_startMonth 70 = .ok (.aload_n 0, 1) := by decide +kernel
theorem dX2_startMonth_71 : decode cX2_startMonth 71 = .ok (.dup, 1) := by decide +kernel
theorem dX2_startMonth_72 : decode cX2_startMonth 72 = .ok (.getfield 97, 3) := by decide +kernel
theorem dX2_startMonth_75 : decode cX2_startMonth 75 = .ok (.iconst 2, 1) := by decide +kernel
theorem dX2_startMonth_76 : decode cX2_startMonth 76 = .ok (.aload_n 0, 1) := by decide +kernel
theorem dX2_startMonth_77 : decode cX2_startMonth 77 = .ok (.getfield 19, 3) := by decide +kernel
theorem dX2_startMonth_80 : decode cX2_startMonth 80 = .ok (.iload_n 1, 1) := by decide +kernel
theorem dX2_startMonth_81 : decode cX2_startMonth 81 = .ok (.aaload, 1) := by decide +kernel
theorem dX2_startMonth_82 : decode cX2_startMonth 82 = .ok (.getfield 103, 3) := by decide +kernel
theorem dX2_startMonth_85 : decode cX2_startMonth 85 = .ok (.imul, 1) := by decide +kernel
theorem dX2_startMonth_86 : decode cX2_startMonth 86 = .ok (.iadd, 1) := by decide +kernel
theorem dX2_startMonth_87 : decode cX2_startMonth 87 = .ok (.putfield 97, 3) := by decide +kernel
theorem dX2_startMonth_90 : decode cX2_startMonth 90 = .ok (.iinc 1 1, 3) := by decide +kernel
theorem dX2_startMonth_93 : decode cX2_startMonth 93 = .ok (.goto (-53), 3) := by decide +kernel
theorem dX2_startMonth_96 : decode cX2_startMonth 96 = .ok (.return_, 1) := by decide +kernel
set_option maxRecDepth 20000 in
theorem ggX2_produce_X1_pressure : GoodIn wsX2_produce wsX1_pressure := goodIn_r _ [18, 19, 20, 21, 22, 17, 23, 24, 67, 68, 69, 70] (by decide +kernel) (by decide +kernel)
set_option maxRecDepth 20000 in
theorem gX2_produce_X1_pressure : GoodIn wsX2_produce (wsV RX2 109 RX1 yX1_pressure wsX1_pressure) := goodIn_app (goodIn_of _ (by decide +kernel)) ggX2_produce_X1_pressure
set_option maxRecDepth 20000 in
theorem ggX2_produce_X2_mayComeUp : GoodIn wsX2_produce wsX2_mayComeUp := goodIn_r _ [29, 30, 12, 31, 13, 8, 9, 5, 10, 32, 50, 51, 52, 53, 54, 55, 56, 57, 58, 59, 60, 61] (by decide +kernel) (by decide +kernel)
set_option maxRecDepth 20000 in
theorem gX2_produce_X2_mayComeUp : GoodIn wsX2_produce (wsV RX2 118 RX2 yX2_mayComeUp wsX2_mayComeUp) := goodIn_app (goodIn_of _ (by decide +kernel)) ggX2_produce_X2_mayComeUp
set_option maxRecDepth 20000 in
theorem ggX2_produce_X1_mostTimes : GoodIn wsX2_produce wsX1_mostTimes := goodIn_r _ [36, 24, 20, 21, 22, 17, 23, 37, 38, 39, 40, 41, 67, 68, 69, 70] (by decide +kernel) (by decide +kernel)
set_option maxRecDepth 20000 in
theorem gX2_produce_X1_mostTimes : GoodIn wsX2_produce (wsV RX2 122 RX1 yX1_mostTimes wsX1_mostTimes) := goodIn_app (goodIn_of _ (by decide +kernel)) ggX2_produce_X1_mostTimes
set_option maxRecDepth 20000 in
theorem ggX2_produce_X1_moveOut : GoodIn wsX2_produce wsX1_moveOut := goodIn_r _ [45, 24, 46, 9, 5, 10, 47, 48, 49, 20, 21, 22, 17, 23, 37, 38, 39, 40, 41, 67, 68, 69, 70] (by decide +kernel) (by decide +kernel)
set_option maxRecDepth 20000 in
theorem gX2_produce_X1_moveOut : GoodIn wsX2_produce (wsV RX2 131 RX1 yX1_moveOut wsX1_moveOut) := goodIn_app (goodIn_of _ (by decide +kernel)) ggX2_produce_X1_moveOut
theorem dX2_produce_0 : decode cX2_produce 0 = .ok (.aload_n 0, 1) := by decide +kernel
theorem dX2_produce_1 : decode cX2_produce 1 = .ok (.getfield 11, 3) := by decide +kernel
end
section
theorem dX2_produce_4 : decode cX2_produce 4 = .ok (.aload_n 1, 1) := by decide +kernel
theorem dX2_produce_5 : decode cX2_produce 5 = .ok (.getfield 106, 3) := by decide +kernel
theorem dX2_produce_8 : decode cX2_produce 8 = .ok (.aaload, 1) := by decide +kernel
theorem dX2_produce_9 : decode cX2_produce 9 = .ok (.astore_n 2, 1) := by decide +kernel
theorem dX2_produce_10 : decode cX2_produce 10 = .ok (.iconst 0, 1) := by decide +kernel
theorem dX2_produce_11 : decode cX2_produce 11 = .ok (.aload_n 2, 1) := by decide +kernel
theorem dX2_produce_12 : decode cX2_produce 12 = .ok (.invokevirtual 109, 3) := by decide +kernel
theorem dX2_produce_15 : decode cX2_produce 15 = .ok (.bipush 50, 2) := by decide +kernel
theorem dX2_produce_17 : decode cX2_produce 17 = .ok (.isub, 1) := by decide +kernel
theorem dX2_produce_18 : decode cX2_produce 18 = .ok (.invokestatic 112, 3) := by decide +kernel
theorem dX2_produce_21 : decode cX2_produce 21 = .ok (.istore_n 3, 1) := by decide +kernel
theorem dX2_produce_22 : decode cX2_produce 22 = .ok (.aload_n 1, 1) := by decide +kernel
theorem dX2_produce_23 : decode cX2_produce 23 = .ok (.getfield 103, 3) := by decide +kernel
theorem dX2_produce_26 : decode cX2_produce 26 = .ok (.iload_n 3, 1) := by decide +kernel
theorem dX2_produce_27 : decode cX2_produce 27 = .ok (.imul, 1) := by decide +kernel
theorem dX2_produce_28 : decode cX2_produce 28 = .ok (.bipush 100, 2) := by decide +kernel
theorem dX2_produce_30 : decode cX2_produce 30 = .ok (.idiv, 1) := by decide +kernel
theorem dX2_produce_31 : decode cX2_produce 31 = .ok (.istore 4, 2) := by decide +kernel
theorem dX2_produce_33 : decode cX2_produce 33 = .ok (.iconst 0, 1) := by decide +kernel
theorem dX2_produce_34 : decode cX2_produce 34 = .ok (.istore 5, 2) := by decide +kernel
theorem dX2_produce_36 : decode cX2_produce 36 = .ok (.iload 5, 2) := by decide +kernel
theorem dX2_produce_38 : decode cX2_produce 38 = .ok (.iconst 3, 1) := by decide +kernel
theorem dX2_produce_39 : decode cX2_produce 39 = .ok (.if_icmp .ge 28, 3) := by decide +kernel
theorem dX2_produce_42 : decode cX2_produce 42 = .ok (.iload 4, 2) := by decide +kernel
theorem dX2_produce_44 : decode cX2_produce 44 = .ok (.aload_n 2, 1) := by decide +kernel
theorem dX2_produce_45 : decode cX2_produce 45 = .ok (.iload 5, 2) := by decide +kernel
theorem dX2_produce_47 : decode cX2_produce 47 = .ok (.aload_n 0, 1) := by decide +kernel
theorem dX2_produce_48 : decode cX2_produce 48 = .ok (.iload 5, 2) := by decide +kernel
theorem dX2_produce_50 : decode cX2_produce 50 = .ok (.invokevirtual 118, 3) := by decide +kernel
theorem dX2_produce_53 : decode cX2_produce 53 = .ok (.invokevirtual 122, 3) := by decide +kernel
theorem dX2_produce_56 : decode cX2_produce 56 = .ok (.invokestatic 125, 3) := by decide +kernel
theorem dX2_produce_59 : decode cX2_produce 59 = .ok (.istore 4, 2) := by decide +kernel
theorem dX2_produce_61 : decode cX2_produce 61 = .ok (.iinc 5 1, 3) := by decide +kernel
theorem dX2_produce_64 : decode cX2_produce 64 = .ok (.goto (-28), 3) := by decide +kernel
theorem dX2_produce_67 : decode cX2_produce 67 = .ok (.aload_n 2, 1) := by decide +kernel
theorem dX2_produce_68 : decode cX2_produce 68 = .ok (.iload 4, 2) := by decide +kernel
theorem dX2_produce_70 : decode cX2_produce 70 = .ok (.aload_n 1, 1) := by decide +kernel
theorem dX2_produce_71 : decode cX2_produce 71 = .ok (.getfield 128, 3) := by decide +kernel
theorem dX2_produce_74 : decode cX2_produce 74 = .ok (.invokevirtual 131, 3) := by decide +kernel
theorem dX2_produce_77 : decode cX2_produce 77 = .ok (.iconst 0, 1) := by decide +kernel
theorem dX2_produce_78 : decode cX2_produce 78 = .ok (.istore 5, 2) := by decide +kernel
theorem dX2_produce_80 : decode cX2_produce 80 = .ok (.iload 5, 2) := by decide +kernel
theorem dX2_produce_82 : decode cX2_produce 82 = .ok (.iconst 3, 1) := by decide +kernel
theorem dX2_produce_83 : decode cX2_produce 83 = .ok (.if_icmp .ge 26, 3) := by decide +kernel
theorem dX2_produce_86 : decode cX2_produce 86 = .ok (.aload_n 0, 1) := by decide +kernel
theorem dX2_produce_87 : decode cX2_produce 87 = .ok (.getfield 34, 3) := by decide +kernel
theorem dX2_produce_90 : decode cX2_produce 90 = .ok (.iload 5, 2) := by decide +kernel
theorem dX2_produce_92 : decode cX2_produce 92 = .ok (.dup2, 1) := by decide +kernel
theorem dX2_produce_93 : decode cX2_produce 93 = .ok (.iaload, 1) := by decide +kernel
theorem dX2_produce_94 : decode cX2_produce 94 = .ok (.aload_n 1, 1) := by decide +kernel
theorem dX2_produce_95 : decode cX2_produce 95 = .ok (.getfield 128, 3) := by decide +kernel
theorem dX2_produce_98 : decode cX2_produce 98 = .ok (.iload 5, 2) := by decide +kernel
theorem dX2_produce_100 : decode cX2_produce 100 = .ok (.iaload, 1) := by decide +kernel
theorem dX2_produce_101 : decode cX2_produce 101 = .ok (.iadd, 1) := by decide +kernel
theorem dX2_produce_102 : decode cX2_produce 102 = .ok (.iastore, 1) := by decide +kernel
theorem dX2_produce_103 : decode cX2_produce 103 = .ok (.iinc 5 1, 3) := by decide +kernel
theorem dX2_produce_106 : decode cX2_produce 106 = .ok (.goto (-26), 3) := by decide +kernel
theorem dX2_produce_109 : decode cX2_produce 109 = .ok (.aload_n 0, 1) := by decide +kernel
theorem dX2_produce_110 : decode cX2_produce 110 = .ok (.dup, 1) := by decide +kernel
theorem dX2_produce_111 : decode cX2_produce 111 = .ok (.getfield 55, 3) := by decide +kernel
theorem dX2_produce_114 : decode cX2_produce 114 = .ok (.aload_n 1, 1) := by decide +kernel
theorem dX2_produce_115 : decode cX2_produce 115 = .ok (.getfield 128, 3) := by decide +kernel
theorem dX2_produce_118 : decode cX2_produce 118 = .ok (.iconst 0, 1) := by decide +kernel
theorem dX2_produce_119 : decode cX2_produce 119 = .ok (.iaload, 1) := by decide +kernel
theorem dX2_produce_120 : decode cX2_produce 120 = .ok (.iadd, 1) := by decide +kernel
theorem dX2_produce_121 : decode cX2_produce 121 = .ok (.putfield 55, 3) := by decide +kernel
theorem dX2_produce_124 : decode cX2_produce 124 = .ok (.return_, 1) := by decide +kernel
theorem dX2_mayComeUp_0 : decode cX2_mayComeUp 0 = .ok (.aload_n 0, 1) := by decide +kernel
theorem dX2_mayComeUp_1 : decode cX2_mayComeUp 1 = .ok (.getfield 23, 3) := by decide +kernel
theorem dX2_mayComeUp_4 : decode cX2_mayComeUp 4 = .ok (.iload_n 1, 1) := by decide +kernel
theorem dX2_mayComeUp_5 : decode cX2_mayComeUp 5 = .ok (.iaload, 1) := by decide +kernel
theorem dX2_mayComeUp_6 : decode cX2_mayComeUp 6 = .ok (.aload_n 0, 1) := by decide +kernel
theorem dX2_mayComeUp_7 : decode cX2_mayComeUp 7 = .ok (.getfield 34, 3) := by decide +kernel
theorem dX2_mayComeUp_10 : decode cX2_mayComeUp 10 = .ok (.iload_n 1, 1) := by decide +kernel
theorem dX2_mayComeUp_11 : decode cX2_mayComeUp 11 = .ok (.iaload, 1) := by decide +kernel
theorem dX2_mayComeUp_12 : decode cX2_mayComeUp 12 = .ok (.isub, 1) := by decide +kernel
theorem dX2_mayComeUp_13 : decode cX2_mayComeUp 13 = .ok (.istore_n 2, 1) := by decide +kernel
theorem dX2_mayComeUp_14 : decode cX2_mayComeUp 14 = .ok (.iload_n 1, 1) := by decide +kernel
theorem dX2_mayComeUp_15 : decode cX2_mayComeUp 15 = .ok (.ifCond .ne 17, 3) := by decide +kernel
theorem dX2_mayComeUp_18 : decode cX2_mayComeUp 18 = .ok (.iload_n 2, 1) := by decide +kernel
theorem dX2_mayComeUp_19 : decode cX2_mayComeUp 19 = .ok (.aload_n 0, 1) := by decide +kernel
theorem dX2_mayComeUp_20 : decode cX2_mayComeUp 20 = .ok (.getfield 31, 3) := by decide +kernel
theorem dX2_mayComeUp_23 : decode cX2_mayComeUp 23 = .ok (.aload_n 0, 1) := by decide +kernel
theorem dX2_mayComeUp_24 : decode cX2_mayComeUp 24 = .ok (.getfield 55, 3) := by decide +kernel
theorem dX2_mayComeUp_27 : decode cX2_mayComeUp 27 = .ok (.isub, 1) := by decide +kernel
theorem dX2_mayComeUp_28 : decode cX2_mayComeUp 28 = .ok (.invokestatic 125, 3) := by decide +kernel
theorem dX2_mayComeUp_31 : decode cX2_mayComeUp 31 = .ok (.ireturn, 1) := by decide +kernel
theorem dX2_mayComeUp_32 : decode cX2_mayComeUp 32 = .ok (.iload_n 1, 1) := by decide +kernel
theorem dX2_mayComeUp_33 : decode cX2_mayComeUp 33 = .ok (.iconst 2, 1) := by decide +kernel
theorem dX2_mayComeUp_34 : decode cX2_mayComeUp 34 = .ok (.if_icmp .ne 21, 3) := by decide +kernel
theorem dX2_mayComeUp_37 : decode cX2_mayComeUp 37 = .ok (.iload_n 2, 1) := by decide +kernel
theorem dX2_mayComeUp_38 : decode cX2_mayComeUp 38 = .ok (.aload_n 0, 1) := by decide +kernel
theorem dX2_mayComeUp_39 : decode cX2_mayComeUp 39 = .ok (.getfield 97, 3) := by decide +kernel
theorem dX2_mayComeUp_42 : decode cX2_mayComeUp 42 = .ok (.aload_n 0, 1) := by decide +kernel
theorem dX2_mayComeUp_43 : decode cX2_mayComeUp 43 = .ok (.getfield 34, 3) := by decide +kernel
theorem dX2_mayComeUp_46 : decode cX2_mayComeUp 46 = .ok (.iconst 2, 1) := by decide +kernel
theorem dX2_mayComeUp_47 : decode cX2_mayComeUp 47 = .ok (.iaload, 1) := by decide +kernel
theorem dX2_mayComeUp_48 : decode cX2_mayComeUp 48 = .ok (.isub, 1) := by decide +kernel
theorem dX2_mayComeUp_49 : decode cX2_mayComeUp 49 = .ok (.invokestatic 125, 3) := by decide +kernel
theorem dX2_mayComeUp_52 : decode cX2_mayComeUp 52 = .ok (.goto 4, 3) := by decide +kernel
theorem dX2_mayComeUp_55 : decode cX2_mayComeUp 55 = .ok (.iload_n 2, 1) := by decide +kernel
theorem dX2_mayComeUp_56 : decode cX2_mayComeUp 56 = .ok (.ireturn, 1) := by decide +kernel
set_option maxRecDepth 20000 in
theorem ggX2_putGasBack_X2_putIn : GoodIn wsX2_putGasBack wsX2_putIn := goodIn_r _ [16, 17, 18, 19, 20, 21, 22, 23, 24, 25, 26, 27, 28, 29, 30, 31, 32, 33, 34, 35, 36, 37, 38, 39, 40, 41] (by decide +kernel) (by decide +kernel)
set_option maxRecDepth 20000 in
theorem gX2_putGasBack_X2_putIn : GoodIn wsX2_putGasBack (wsV RX2 135 RX2 yX2_putIn wsX2_putIn) := goodIn_app (goodIn_of _ (by decide +kernel)) ggX2_putGasBack_X2_putIn
theorem dX2_putGasBack_0 : decode cX2_putGasBack 0 = .ok (.aload_n 0, 1) := by decide +kernel
theorem dX2_putGasBack_1 : decode cX2_putGasBack 1 = .ok (.getfield 34, 3) := by decide +kernel
theorem dX2_putGasBack_4 : decode cX2_putGasBack 4 = .ok (.iconst 2, 1) := by decide +kernel
theorem dX2_putGasBack_5 : decode cX2_putGasBack 5 = .ok (.iaload, 1) := by decide +kernel
theorem dX2_putGasBack_6 : decode cX2_putGasBack 6 = .ok (.istore_n 1, 1) := by decide +kernel
theorem dX2_putGasBack_7 : decode cX2_putGasBack 7 = .ok (.iconst 0, 1) := by decide +kernel
theorem dX2_putGasBack_8 : decode cX2_putGasBack 8 = .ok (.istore_n 2, 1) := by decide +kernel
theorem dX2_putGasBack_9 : decode cX2_putGasBack 9 = .ok (.iload_n 2, 1) := by decide +kernel
theorem dX2_putGasBack_10 : decode cX2_putGasBack 10 = .ok (.aload_n 0, 1) := by decide +kernel
theorem dX2_putGasBack_11 : decode cX2_putGasBack 11 = .ok (.getfield 46, 3) := by decide +kernel
theorem dX2_putGasBack_14 : decode cX2_putGasBack 14 = .ok (.if_icmp .ge 64, 3) := by decide +kernel
theorem dX2_putGasBack_17 : decode cX2_putGasBack 17 = .ok (.aload_n 0, 1) := by decide +kernel
theorem dX2_putGasBack_18 : decode cX2_putGasBack 18 = .ok (.getfield 19, 3) := by decide +kernel
theorem dX2_putGasBack_21 : decode cX2_putGasBack 21 = .ok (.iload_n 2, 1) := by decide +kernel
theorem dX2_putGasBack_22 : decode cX2_putGasBack 22 = .ok (.aaload, 1) := by decide +kernel
theorem dX2_putGasBack_23 : decode cX2_putGasBack 23 = .ok (.getfield 72, 3) := by decide +kernel
theorem dX2_putGasBack_26 : decode cX2_putGasBack 26 = .ok (.iconst 2, 1) := by decide +kernel
theorem dX2_putGasBack_27 : decode cX2_putGasBack 27 = .ok (.if_icmp .ne 45, 3) := by decide +kernel
theorem dX2_putGasBack_30 : decode cX2_putGasBack 30 = .ok (.iload_n 1, 1) := by decide +kernel
theorem dX2_putGasBack_31 : decode cX2_putGasBack 31 = .ok (.iconst 2, 1) := by decide +kernel
theorem dX2_putGasBack_32 : decode cX2_putGasBack 32 = .ok (.aload_n 0, 1) := by decide +kernel
theorem dX2_putGasBack_33 : decode cX2_putGasBack 33 = .ok (.getfield 19, 3) := by decide +kernel
theorem dX2_putGasBack_36 : decode cX2_putGasBack 36 = .ok (.iload_n 2, 1) := by decide +kernel
theorem dX2_putGasBack_37 : decode cX2_putGasBack 37 = .ok (.aaload, 1) := by decide +kernel
theorem dX2_putGasBack_38 : decode cX2_putGasBack 38 = .ok (.getfield 103, 3) := by decide +kernel
theorem dX2_putGasBack_41 : decode cX2_putGasBack 41 = .ok (.imul, 1) := by decide +kernel
theorem dX2_putGasBack_42 : decode cX2_putGasBack 42 = .ok (.invokestatic 125, 3) := by decide +kernel
theorem dX2_putGasBack_45 : decode cX2_putGasBack 45 = .ok (.istore_n 3, 1) := by decide +kernel
theorem dX2_putGasBack_46 : decode cX2_putGasBack 46 = .ok (.aload_n 0, 1) := by decide +kernel
theorem dX2_putGasBack_47 : decode cX2_putGasBack 47 = .ok (.aload_n 0, 1) := by decide +kernel
theorem dX2_putGasBack_48 : decode cX2_putGasBack 48 = .ok (.getfield 19, 3) := by decide +kernel
theorem dX2_putGasBack_51 : decode cX2_putGasBack 51 = .ok (.iload_n 2, 1) := by decide +kernel
theorem dX2_putGasBack_52 : decode cX2_putGasBack 52 = .ok (.aaload, 1) := by decide +kernel
theorem dX2_putGasBack_53 : decode cX2_putGasBack 53 = .ok (.iconst 2, 1) := by decide +kernel
theorem dX2_putGasBack_54 : decode cX2_putGasBack 54 = .ok (.iload_n 3, 1) := by decide +kernel
theorem dX2_putGasBack_55 : decode cX2_putGasBack 55 = .ok (.invokevirtual 135, 3) := by decide +kernel
theorem dX2_putGasBack_58 : decode cX2_putGasBack 58 = .ok (.iload_n 1, 1) := by decide +kernel
theorem dX2_putGasBack_59 : decode cX2_putGasBack 59 = .ok (.iload_n 3, 1) := by decide +kernel
theorem dX2_putGasBack_60 : decode cX2_putGasBack 60 = .ok (.isub, 1) := by decide +kernel
theorem dX2_putGasBack_61 : decode cX2_putGasBack 61 = .ok (.istore_n 1, 1) := by decide +kernel
theorem dX2_putGasBack_62 : decode cX2_putGasBack 62 = .ok (.aload_n 0, 1) := by decide +kernel
theorem dX2_putGasBack_63 : decode cX2_putGasBack 63 = .ok (.dup, 1) := by decide +kernel
theorem dX2_putGasBack_64 : decode cX2_putGasBack 64 = .ok (.getfield 91, 3) := by decide +kernel
theorem dX2_putGasBack_67 : decode cX2_putGasBack 67 = .ok (.iload_n 3, 1) := by decide +kernel
theorem dX2_putGasBack_68 : decode cX2_putGasBack 68 = .ok (.iadd, 1) := by decide +kernel
theorem dX2_putGasBack_69 : decode cX2_putGasBack 69 = .ok (.putfield 91, 3) := by decide +kernel
theorem dX2_putGasBack_72 : decode cX2_putGasBack 72 = .ok (.iinc 2 1, 3) := by decide +kernel
theorem dX2_putGasBack_75 : decode cX2_putGasBack 75 = .ok (.goto (-66), 3) := by decide +kernel
theorem dX2_putGasBack_78 : decode cX2_putGasBack 78 = .ok (.aload_n 0, 1) := by decide +kernel
theorem dX2_putGasBack_79 : decode cX2_putGasBack 79 = .ok (.iload_n 1, 1) := by decide +kernel
theorem dX2_putGasBack_80 : decode cX2_putGasBack 80 = .ok (.putfield 139, 3) := by decide +kernel
theorem dX2_putGasBack_83 : decode cX2_putGasBack 83 = .ok (.return_, 1) := by decide +kernel
set_option maxRecDepth 20000 in
theorem ggX2_putWaterIn_X1_pressure : GoodIn wsX2_putWaterIn wsX1_pressure := goodIn_r _ [12, 13, 14, 15, 16, 11, 17, 18, 43, 44, 45, 46] (by decide +kernel) (by decide +kernel)
set_option maxRecDepth 20000 in
theorem gX2_putWaterIn_X1_pressure : GoodIn wsX2_putWaterIn (wsV RX2 109 RX1 yX1_pressure wsX1_pressure) := goodIn_app (goodIn_of _ (by decide +kernel)) ggX2_putWaterIn_X1_pressure
set_option maxRecDepth 20000 in
theorem ggX2_putWaterIn_X2_putIn : GoodIn wsX2_putWaterIn wsX2_putIn := goodIn_r _ [23, 4, 5, 24, 25, 26, 27, 28, 29, 30, 31, 32, 33, 34, 35, 36, 37, 38, 39, 40, 41, 42, 43, 44, 45, 46] (by decide +kernel) (by decide +kernel)
set_option maxRecDepth 20000 in
theorem gX2_putWaterIn_X2_putIn : GoodIn wsX2_putWaterIn (wsV RX2 135 RX2 yX2_putIn wsX2_putIn) := goodIn_app (goodIn_of _ (by decide +kernel)) ggX2_putWaterIn_X2_putIn
theorem dX2_putWaterIn_0 : decode cX2_putWaterIn 0 = .ok (.iconst 0, 1) := by decide +kernel
theorem dX2_putWaterIn_1 : decode cX2_putWaterIn 1 = .ok (.istore_n 1, 1) := by decide +kernel
theorem dX2_putWaterIn_2 : decode cX2_putWaterIn 2 = .ok (.iload_n 1, 1) := by decide +kernel
theorem dX2_putWaterIn_3 : decode cX2_putWaterIn 3 = .ok (.aload_n 0, 1) := by decide +kernel
theorem dX2_putWaterIn_4 : decode cX2_putWaterIn 4 = .ok (.getfield 46, 3) := by decide +kernel
theorem dX2_putWaterIn_7 : decode cX2_putWaterIn 7 = .ok (.if_icmp .ge 79, 3) := by decide +kernel
theorem dX2_putWaterIn_10 : decode cX2_putWaterIn 10 = .ok (.aload_n 0, 1) := by decide +kernel
theorem dX2_putWaterIn_11 : decode cX2_putWaterIn 11 = .ok (.getfield 19, 3) := by decide +kernel
theorem dX2_putWaterIn_14 : decode cX2_putWaterIn 14 = .ok (.iload_n 1, 1) := by decide +kernel
theorem dX2_putWaterIn_15 : decode cX2_putWaterIn 15 = .ok (.aaload, 1) := by decide +kernel
theorem dX2_putWaterIn_16 : decode cX2_putWaterIn 16 = .ok (.getfield 72, 3) := by decide +kernel
theorem dX2_putWaterIn_19 : decode cX2_putWaterIn 19 = .ok (.iconst 1, 1) := by decide +kernel
theorem dX2_putWaterIn_20 : decode cX2_putWaterIn 20 = .ok (.if_icmp .ne 60, 3) := by decide +kernel
theorem dX2_putWaterIn_23 : decode cX2_putWaterIn 23 = .ok (.aload_n 0, 1) := by decide +kernel
theorem dX2_putWaterIn_24 : decode cX2_putWaterIn 24 = .ok (.getfield 11, 3) := by decide +kernel
theorem dX2_putWaterIn_27 : decode cX2_putWaterIn 27 = .ok (.aload_n 0, 1) := by decide +kernel
theorem dX2_putWaterIn_28 : decode cX2_putWaterIn 28 = .ok (.getfield 19, 3) := by decide +kernel
theorem dX2_putWaterIn_31 : decode cX2_putWaterIn 31 = .ok (.iload_n 1, 1) := by decide +kernel
theorem dX2_putWaterIn_32 : decode cX2_putWaterIn 32 = .ok (.aaload, 1) := by decide +kernel
theorem dX2_putWaterIn_33 : decode cX2_putWaterIn 33 = .ok (.getfield 106, 3) := by decide +kernel
theorem dX2_putWaterIn_36 : decode cX2_putWaterIn 36 = .ok (.aaload, 1) := by decide +kernel
theorem dX2_putWaterIn_37 : decode cX2_putWaterIn 37 = .ok (.invokevirtual 109, 3) := by decide +kernel
theorem dX2_putWaterIn_40 : decode cX2_putWaterIn 40 = .ok (.sipush 200, 3) := by decide +kernel
theorem dX2_putWaterIn_43 : decode cX2_putWaterIn 43 = .ok (.if_icmp .ge 37, 3) := by decide +kernel
theorem dX2_putWaterIn_46 : decode cX2_putWaterIn 46 = .ok (.iconst 2, 1) := by decide +kernel
theorem dX2_putWaterIn_47 : decode cX2_putWaterIn 47 = .ok (.aload_n 0, 1) := by decide +kernel
theorem dX2_putWaterIn_48 : decode cX2_putWaterIn 48 = .ok (.getfield 19, 3) := by decide +kernel
theorem dX2_putWaterIn_51 : decode cX2_putWaterIn 51 = .ok (.iload_n 1, 1) := by decide +kernel
theorem dX2_putWaterIn_52 : decode cX2_putWaterIn 52 = .ok (.aaload, 1) := by decide +kernel
theorem dX2_putWaterIn_53 : decode cX2_putWaterIn 53 = .ok (.getfield 103, 3) := by decide +kernel
theorem dX2_putWaterIn_56 : decode cX2_putWaterIn 56 = .ok (.imul, 1) := by decide +kernel
theorem dX2_putWaterIn_57 : decode cX2_putWaterIn 57 = .ok (.istore_n 2, 1) := by decide +kernel
theorem dX2_putWaterIn_58 : decode cX2_putWaterIn 58 = .ok (.aload_n 0, 1) := by decide +kernel
theorem dX2_putWaterIn_59 : decode cX2_putWaterIn 59 = .ok (.aload_n 0, 1) := by decide +kernel
theorem dX2_putWaterIn_60 : decode cX2_putWaterIn 60 = .ok (.getfield 19, 3) := by decide +kernel
theorem dX2_putWaterIn_63 : decode cX2_putWaterIn 63 = .ok (.iload_n 1, 1) := by decide +kernel
theorem dX2_putWaterIn_64 : decode cX2_putWaterIn 64 = .ok (.aaload, 1) := by decide +kernel
theorem dX2_putWaterIn_65 : decode cX2_putWaterIn 65 = .ok (.iconst 1, 1) := by decide +kernel
theorem dX2_putWaterIn_66 : decode cX2_putWaterIn 66 = .ok (.iload_n 2, 1) := by decide +kernel
theorem dX2_putWaterIn_67 : decode cX2_putWaterIn 67 = .ok (.invokevirtual 135, 3) := by decide +kernel
theorem dX2_putWaterIn_70 : decode cX2_putWaterIn 70 = .ok (.aload_n 0, 1) := by decide +kernel
theorem dX2_putWaterIn_71 : decode cX2_putWaterIn 71 = .ok (.dup, 1) := by decide +kernel
theorem dX2_putWaterIn_72 : decode cX2_putWaterIn 72 = .ok (.getfield 94, 3) := by decide +kernel
theorem dX2_putWaterIn_75 : decode cX2_putWaterIn 75 = .ok (.iload_n 2, 1) := by decide +kernel
theorem dX2_putWaterIn_76 : decode cX2_putWaterIn 76 = .ok (.iadd, 1) := by decide +kernel
theorem dX2_putWaterIn_77 : decode cX2_putWaterIn 77 = .ok (.putfield 94, 3) := by decide +kernel
theorem dX2_putWaterIn_80 : decode cX2_putWaterIn 80 = .ok (.iinc 1 1, 3) := by decide +kernel
theorem dX2_putWaterIn_83 : decode cX2_putWaterIn 83 = .ok (.goto (-81), 3) := by decide +kernel
theorem dX2_putWaterIn_86 : decode cX2_putWaterIn 86 = .ok (.return_, 1) := by decide +kernel
theorem dX2_putIn_0 : decode cX2_putIn 0 = .ok (.aload_n 0, 1) := by decide +kernel
theorem dX2_putIn_1 : decode cX2_putIn 1 = .ok (.getfield 11, 3) := by decide +kernel
theorem dX2_putIn_4 : decode cX2_putIn 4 = .ok (.aload_n 1, 1) := by decide +kernel
theorem dX2_putIn_5 : decode cX2_putIn 5 = .ok (.getfield 106, 3) := by decide +kernel
theorem dX2_putIn_8 : decode cX2_putIn 8 = .ok (.aaload, 1) := by decide +kernel
theorem dX2_putIn_9 : decode cX2_putIn 9 = .ok (.getfield 58, 3) := by decide +kernel
theorem dX2_putIn_12 : decode cX2_putIn 12 = .ok (.iload_n 2, 1) := by decide +kernel
theorem dX2_putIn_13 : decode cX2_putIn 13 = .ok (.dup2, 1) := by decide +kernel
theorem dX2_putIn_14 : decode cX2_putIn 14 = .ok (.iaload, 1) := by decide +kernel
theorem dX2_putIn_15 : decode cX2_putIn 15 = .ok (.iload_n 3, 1) := by decide +kernel
theorem dX2_putIn_16 : decode cX2_putIn 16 = .ok (.iadd, 1) := by decide +kernel
theorem dX2_putIn_17 : decode cX2_putIn 17 = .ok (.iastore, 1) := by decide +kernel
theorem dX2_putIn_18 : decode cX2_putIn 18 = .ok (.aload_n 1, 1) := by decide +kernel
theorem dX2_putIn_19 : decode cX2_putIn 19 = .ok (.getfield 128, 3) := by decide +kernel
theorem dX2_putIn_22 : decode cX2_putIn 22 = .ok (.iload_n 2, 1) := by decide +kernel
theorem dX2_putIn_23 : decode cX2_putIn 23 = .ok (.iload_n 3, 1) := by decide +kernel
theorem dX2_putIn_24 : decode cX2_putIn 24 = .ok (.iastore, 1) := by decide +kernel
theorem dX2_putIn_25 : decode cX2_putIn 25 = .ok (.return_, 1) := by decide +kernel
set_option maxRecDepth 20000 in
theorem ggX2_evenOut_X6_neighbour : GoodIn wsX2_evenOut wsX6_neighbour := goodIn_r _ [5] (by decide +kernel) (by decide +kernel)
set_option maxRecDepth 20000 in
theorem gX2_evenOut_X6_neighbour_n142 : GoodIn wsX2_evenOut (wsX6_neighbour) := ggX2_evenOut_X6_neighbour
set_option maxRecDepth 20000 in
theorem ggX2_evenOut_X1_isShut : GoodIn wsX2_evenOut wsX1_isShut := goodIn_r _ [10, 11, 12, 51, 52, 53, 54] (by decide +kernel) (by decide +kernel)
set_option maxRecDepth 20000 in
theorem gX2_evenOut_X1_isShut : GoodIn wsX2_evenOut (wsV RX2 61 RX1 yX1_isShut wsX1_isShut) := goodIn_app (goodIn_of _ (by decide +kernel)) ggX2_evenOut_X1_isShut
set_option maxRecDepth 20000 in
theorem ggX2_evenOut_X1_pressure : GoodIn wsX2_evenOut wsX1_pressure := goodIn_r _ [16, 17, 18, 19, 20, 9, 21, 22, 51, 52, 53, 54] (by decide +kernel) (by decide +kernel)
set_option maxRecDepth 20000 in
theorem gX2_evenOut_X1_pressure : GoodIn wsX2_evenOut (wsV RX2 109 RX1 yX1_pressure wsX1_pressure) := goodIn_app (goodIn_of _ (by decide +kernel)) ggX2_evenOut_X1_pressure
set_option maxRecDepth 20000 in
theorem ggX2_evenOut_X1_moveOut : GoodIn wsX2_evenOut wsX1_moveOut := goodIn_r _ [26, 22, 27, 28, 29, 30, 31, 32, 33, 18, 19, 20, 9, 21, 34, 35, 36, 37, 38, 51, 52, 53, 54] (by decide +kernel) (by decide +kernel)
set_option maxRecDepth 20000 in
theorem gX2_evenOut_X1_moveOut : GoodIn wsX2_evenOut (wsV RX2 131 RX1 yX1_moveOut wsX1_moveOut) := goodIn_app (goodIn_of _ (by decide +kernel)) ggX2_evenOut_X1_moveOut
theorem dX2_evenOut_0 : decode cX2_evenOut 0 = .ok (.iload_n 1, 1) := by decide +kernel
theorem dX2_evenOut_1 : decode cX2_evenOut 1 = .ok (.iload_n 2, 1) := by decide +kernel
theorem dX2_evenOut_2 : decode cX2_evenOut 2 = .ok (.invokestatic 142, 3) := by decide +kernel
theorem dX2_evenOut_5 : decode cX2_evenOut 5 = .ok (.istore_n 3, 1) := by decide +kernel
theorem dX2_evenOut_6 : decode cX2_evenOut 6 = .ok (.iload_n 3, 1) := by decide +kernel
theorem dX2_evenOut_7 : decode cX2_evenOut 7 = .ok (.iconst (-1), 1) := by decide +kernel
theorem dX2_evenOut_8 : decode cX2_evenOut 8 = .ok (.if_icmp .eq 16, 3) := by decide +kernel
theorem dX2_evenOut_11 : decode cX2_evenOut 11 = .ok (.aload_n 0, 1) := by decide +kernel
theorem dX2_evenOut_12 : decode cX2_evenOut 12 = .ok (.getfield 11, 3) := by decide +kernel
theorem dX2_evenOut_15 : decode cX2_evenOut 15 = .ok (.iload_n 1, 1) := by decide +kernel
theorem dX2_evenOut_16 : decode cX2_evenOut 16 = .ok (.aaload, 1) := by decide +kernel
theorem dX2_evenOut_17 : decode cX2_evenOut 17 = .ok (.iload_n 2, 1) := by decide +kernel
theorem dX2_evenOut_18 : decode cX2_evenOut 18 = .ok (.invokevirtual 61, 3) := by decide +kernel
theorem dX2_evenOut_21 : decode cX2_evenOut 21 = .ok (.ifCond .eq 4, 3) := by decide +kernel
theorem dX2_evenOut_24 : decode cX2_evenOut 24 = .ok (.return_, 1) := by decide +kernel
theorem dX2_evenOut_25 : decode cX2_evenOut 25 = .ok (.aload_n 0, 1) := by decide +kernel
theorem dX2_evenOut_26 : decode cX2_evenOut 26 = .ok (.getfield 11, 3) := by decide +kernel
theorem dX2_evenOut_29 : decode cX2_evenOut 29 = .ok (.iload_n 1, 1) := by decide +kernel
theorem dX2_evenOut_30 : decode cX2_evenOut 30 = .ok (.aaload, 1) := by decide +kernel
theorem dX2_evenOut_31 : decode cX2_evenOut 31 = .ok (.astore 4, 2) := by decide +kernel
theorem dX2_evenOut_33 : decode cX2_evenOut 33 = .ok (.aload_n 0, 1) := by decide +kernel
theorem dX2_evenOut_34 : decode cX2_evenOut 34 = .ok (.getfield 11, 3) := by decide +kernel
theorem dX2_evenOut_37 : decode cX2_evenOut 37 = .ok (.iload_n 3, 1) := by decide +kernel
theorem dX2_evenOut_38 : decode cX2_evenOut 38 = .ok (.aaload, 1) := by decide +kernel
theorem dX2_evenOut_39 : decode cX2_evenOut 39 = .ok (.astore 5, 2) := by decide +kernel
theorem dX2_evenOut_41 : decode cX2_evenOut 41 = .ok (.aload 4, 2) := by decide +kernel
theorem dX2_evenOut_43 : decode cX2_evenOut 43 = .ok (.invokevirtual 109, 3) := by decide +kernel
theorem dX2_evenOut_46 : decode cX2_evenOut 46 = .ok (.aload 5, 2) := by decide +kernel
theorem dX2_evenOut_48 : decode cX2_evenOut 48 = .ok (.invokevirtual 109, 3) := by decide +kernel
theorem dX2_evenOut_51 : decode cX2_evenOut 51 = .ok (.isub, 1) := by decide +kernel
theorem dX2_evenOut_52 : decode cX2_evenOut 52 = .ok (.istore 6, 2) := by decide +kernel
theorem dX2_evenOut_54 : decode cX2_evenOut 54 = .ok (.iload 6, 2) := by decide +kernel
theorem dX2_evenOut_56 : decode cX2_evenOut 56 = .ok (.ifCond .le 21, 3) := by decide +kernel
theorem dX2_evenOut_59 : decode cX2_evenOut 59 = .ok (.aload 4, 2) := by decide +kernel
theorem dX2_evenOut_61 : decode cX2_evenOut 61 = .ok (.iload 6, 2) := by decide +kernel
theorem dX2_evenOut_63 : decode cX2_evenOut 63 = .ok (.bipush 20, 2) := by decide +kernel
theorem dX2_evenOut_65 : decode cX2_evenOut 65 = .ok (.idiv, 1) := by decide +kernel
theorem dX2_evenOut_66 : decode cX2_evenOut 66 = .ok (.aload 5, 2) := by decide +kernel
theorem dX2_evenOut_68 : decode cX2_evenOut 68 = .ok (.getfield 58, 3) := by decide +kernel
theorem dX2_evenOut_71 : decode cX2_evenOut 71 = .ok (.invokevirtual 131, 3) := by decide +kernel
theorem dX2_evenOut_74 : decode cX2_evenOut 74 = .ok (.goto 19, 3) := by decide +kernel
theorem dX2_evenOut_77 : decode cX2_evenOut 77 = .ok (.aload 5, 2) := by decide +kernel
theorem dX2_evenOut_79 : decode cX2_evenOut 79 = .ok (.iload 6, 2) := by decide +kernel
theorem dX2_evenOut_81 : decode cX2_evenOut 81 = .ok (.ineg, 1) := by decide +kernel
theorem dX2_evenOut_82 : decode cX2_evenOut 82 = .ok (.bipush 20, 2) := by decide +kernel
theorem dX2_evenOut_84 : decode cX2_evenOut 84 = .ok (.idiv, 1) := by decide +kernel
theorem dX2_evenOut_85 : decode cX2_evenOut 85 = .ok (.aload 4, 2) := by decide +kernel
theorem dX2_evenOut_87 : decode cX2_evenOut 87 = .ok (.getfield 58, 3) := by decide +kernel
theorem dX2_evenOut_90 : decode cX2_evenOut 90 = .ok (.invokevirtual 131, 3) := by decide +kernel
theorem dX2_evenOut_93 : decode cX2_evenOut 93 = .ok (.return_, 1) := by decide +kernel
theorem dX3_init_0 : decode cX3_init 0 = .ok (.aload_n 0, 1) := by decide +kernel
theorem dX3_init_1 : decode cX3_init 1 = .ok (.invokespecial 1, 3) := by decide +kernel
theorem dX3_init_4 : decode cX3_init 4 = .ok (.return_, 1) := by decide +kernel
theorem dX4_init_0 : decode cX4_init 0 = .ok (.aload_n 0, 1) := by decide +kernel
theorem dX4_init_1 : decode cX4_init 1 = .ok (.invokespecial 3, 3) := by decide +kernel
theorem dX4_init_4 : decode cX4_init 4 = .ok (.aload_n 0, 1) := by decide +kernel
theorem dX4_init_5 : decode cX4_init 5 = .ok (.iconst 5, 1) := by decide +kernel
theorem dX4_init_6 : decode cX4_init 6 = .ok (.putfield 9, 3) := by decide +kernel
theorem dX4_init_9 : decode cX4_init 9 = .ok (.aload_n 0, 1) := by decide +kernel
theorem dX4_init_10 : decode cX4_init 10 = .ok (.iconst 3, 1) := by decide +kernel
theorem dX4_init_11 : decode cX4_init 11 = .ok (.newarray .int, 2) := by decide +kernel
theorem dX4_init_13 : decode cX4_init 13 = .ok (.putfield 15, 3) := by decide +kernel
theorem dX4_init_16 : decode cX4_init 16 = .ok (.return_, 1) := by decide +kernel
theorem dX4_take_0 : decode cX4_take 0 = .ok (.aload_n 0, 1) := by decide +kernel
theorem dX4_take_1 : decode cX4_take 1 = .ok (.aload_n 1, 1) := by decide +kernel
theorem dX4_take_2 : decode cX4_take 2 = .ok (.getfield 19, 3) := by decide +kernel
theorem dX4_take_5 : decode cX4_take 5 = .ok (.putfield 19, 3) := by decide +kernel
theorem dX4_take_8 : decode cX4_take 8 = .ok (.aload_n 0, 1) := by decide +kernel
theorem dX4_take_9 : decode cX4_take 9 = .ok (.aload_n 1, 1) := by decide +kernel
theorem dX4_take_10 : decode cX4_take 10 = .ok (.getfield 22, 3) := by decide +kernel
theorem dX4_take_13 : decode cX4_take 13 = .ok (.putfield 22, 3) := by decide +kernel
theorem dX4_take_16 : decode cX4_take 16 = .ok (.aload_n 0, 1) := by decide +kernel
theorem dX4_take_17 : decode cX4_take 17 = .ok (.aload_n 1, 1) := by decide +kernel
theorem dX4_take_18 : decode cX4_take 18 = .ok (.getfield 25, 3) := by decide +kernel
theorem dX4_take_21 : decode cX4_take 21 = .ok (.putfield 25, 3) := by decide +kernel
theorem dX4_take_24 : decode cX4_take 24 = .ok (.aload_n 0, 1) := by decide +kernel
theorem dX4_take_25 : decode cX4_take 25 = .ok (.aload_n 1, 1) := by decide +kernel
theorem dX4_take_26 : decode cX4_take 26 = .ok (.getfield 9, 3) := by decide +kernel
theorem dX4_take_29 : decode cX4_take 29 = .ok (.putfield 9, 3) := by decide +kernel
theorem dX4_take_32 : decode cX4_take 32 = .ok (.return_, 1) := by decide +kernel
theorem dX4_forgetMonth_0 : decode cX4_forgetMonth 0 = .ok (.iconst 0, 1) := by decide +kernel
theorem dX4_forgetMonth_1 : decode cX4_forgetMonth 1 = .ok (.istore_n 1, 1) := by decide +kernel
theorem dX4_forgetMonth_2 : decode cX4_forgetMonth 2 = .ok (.iload_n 1, 1) := by decide +kernel
theorem dX4_forgetMonth_3 : decode cX4_forgetMonth 3 = .ok (.iconst 3, 1) := by decide +kernel
theorem dX4_forgetMonth_4 : decode cX4_forgetMonth 4 = .ok (.if_icmp .ge 16, 3) := by decide +kernel
theorem dX4_forgetMonth_7 : decode cX4_forgetMonth 7 = .ok (.aload_n 0, 1) := by decide +kernel
theorem dX4_forgetMonth_8 : decode cX4_forgetMonth 8 = .ok (.getfield 15, 3) := by decide +kernel
theorem dX4_forgetMonth_11 : decode cX4_forgetMonth 11 = .ok (.iload_n 1, 1) := by decide +kernel
theorem dX4_forgetMonth_12 : decode cX4_forgetMonth 12 = .ok (.iconst 0, 1) := by decide +kernel
theorem dX4_forgetMonth_13 : decode cX4_forgetMonth 13 = .ok (.iastore, 1) := by decide +kernel
theorem dX4_forgetMonth_14 : decode cX4_forgetMonth 14 = .ok (.iinc 1 1, 3) := by decide +kernel
theorem dX4_forgetMonth_17 : decode cX4_forgetMonth 17 = .ok (.goto (-15), 3) := by decide +kernel
theorem dX4_forgetMonth_20 : decode cX4_forgetMonth 20 = .ok (.return_, 1) := by decide +kernel
theorem dX4_hasProduced_0 : decode cX4_hasProduced 0 = .ok (.aload_n 0, 1) := by decide +kernel
theorem dX4_hasProduced_1 : decode cX4_hasProduced 1 = .ok (.getfield 19, 3) := by decide +kernel
theorem dX4_hasProduced_4 : decode cX4_hasProduced 4 = .ok (.ifCond .ne 30, 3) := by decide +kernel
theorem dX4_hasProduced_7 : decode cX4_hasProduced 7 = .ok (.aload_n 0, 1) := by decide +kernel
theorem dX4_hasProduced_8 : decode cX4_hasProduced 8 = .ok (.getfield 15, 3) := by decide +kernel
theorem dX4_hasProduced_11 : decode cX4_hasProduced 11 = .ok (.iconst 0, 1) := by decide +kernel
theorem dX4_hasProduced_12 : decode cX4_hasProduced 12 = .ok (.iaload, 1) := by decide +kernel
theorem dX4_hasProduced_13 : decode cX4_hasProduced 13 = .ok (.aload_n 0, 1) := by decide +kernel
theorem dX4_hasProduced_14 : decode cX4_hasProduced 14 = .ok (.getfield 15, 3) := by decide +kernel
theorem dX4_hasProduced_17 : decode cX4_hasProduced 17 = .ok (.iconst 1, 1) := by decide +kernel
theorem dX4_hasProduced_18 : decode cX4_hasProduced 18 = .ok (.iaload, 1) := by decide +kernel
theorem dX4_hasProduced_19 : decode cX4_hasProduced 19 = .ok (.iadd, 1) := by decide +kernel
theorem dX4_hasProduced_20 : decode cX4_hasProduced 20 = .ok (.aload_n 0, 1) := by decide +kernel
theorem dX4_hasProduced_21 : decode cX4_hasProduced 21 = .ok (.getfield 15, 3) := by decide +kernel
theorem dX4_hasProduced_24 : decode cX4_hasProduced 24 = .ok (.iconst 2, 1) := by decide +kernel
theorem dX4_hasProduced_25 : decode cX4_hasProduced 25 = .ok (.iaload, 1) := by decide +kernel
theorem dX4_hasProduced_26 : decode cX4_hasProduced 26 = .ok (.iadd, 1) := by decide +kernel
theorem dX4_hasProduced_27 : decode cX4_hasProduced 27 = .ok (.ifCond .le 7, 3) := by decide +kernel
theorem dX4_hasProduced_30 : decode cX4_hasProduced 30 = .ok (.iconst 1, 1) := by decide +kernel
theorem dX4_hasProduced_31 : decode cX4_hasProduced 31 = .ok (.goto 4, 3) := by decide +kernel
theorem dX4_hasProduced_34 : decode cX4_hasProduced 34 = .ok (.iconst 0, 1) := by decide +kernel
theorem dX4_hasProduced_35 : decode cX4_hasProduced 35 = .ok (.ireturn, 1) := by decide +kernel
theorem dX5_init_0 : decode cX5_init 0 = .ok (.aload_n 0, 1) := by decide +kernel
theorem dX5_init_1 : decode cX5_init 1 = .ok (.invokespecial 3, 3) := by decide +kernel
theorem dX5_init_4 : decode cX5_init 4 = .ok (.aload_n 0, 1) := by decide +kernel
theorem dX5_init_5 : decode cX5_init 5 = .ok (.iconst 3, 1) := by decide +kernel
theorem dX5_init_6 : decode cX5_init 6 = .ok (.newarray .int, 2) := by decide +kernel
theorem dX5_init_8 : decode cX5_init 8 = .ok (.putfield 9, 3) := by decide +kernel
theorem dX5_init_11 : decode cX5_init 11 = .ok (.return_, 1) := by decide +kernel
set_option maxRecDepth 20000 in
theorem ggX6_init_X2_init : GoodIn wsX6_init wsX2_init := goodIn_r _ [27, 28, 2, 3, 29, 30, 31, 32, 17, 33, 34, 35, 36, 37, 38, 39, 40, 41, 42, 43, 44, 45, 46, 47, 48, 49, 50, 62, 63, 64, 65, 66, 67, 68, 69, 70, 71, 72, 73, 102, 103, 104, 105, 106, 107, 108, 109, 110] (by decide +kernel) (by decide +kernel)
set_option maxRecDepth 20000 in
theorem gX6_init_X2_init : GoodIn wsX6_init (wsX2_init) := ggX6_init_X2_init
set_option maxRecDepth 20000 in
theorem ggX6_init_X0_init : GoodIn wsX6_init wsX0_init := goodIn_r _ [52, 53, 2, 3, 54, 85, 86, 87, 88, 89, 90, 91, 92] (by decide +kernel) (by decide +kernel)
set_option maxRecDepth 20000 in
theorem gX6_init_X0_init_n33 : GoodIn wsX6_init (wsX0_init) := ggX6_init_X0_init
set_option maxRecDepth 20000 in
theorem ggX6_init_X5_init : GoodIn wsX6_init wsX5_init := goodIn_r _ [56, 57, 2, 3, 17, 58, 93, 94, 95, 96, 97] (by decide +kernel) (by decide +kernel)
set_option maxRecDepth 20000 in
theorem gX6_init_X5_init_n46 : GoodIn wsX6_init (wsX5_init) := ggX6_init_X5_init
set_option maxRecDepth 20000 in
theorem ggX6_init_X3_init : GoodIn wsX6_init wsX3_init := goodIn_r _ [60, 61, 2, 3] (by decide +kernel) (by decide +kernel)
set_option maxRecDepth 20000 in
theorem gX6_init_X3_init_n47 : GoodIn wsX6_init (wsX3_init) := ggX6_init_X3_init
theorem dX6_init_0 : decode cX6_init 0 = .ok (.aload_n 0, 1) := by decide +kernel
theorem dX6_init_1 : decode cX6_init 1 = .ok (.invokespecial 1, 3) := by decide +kernel
theorem dX6_init_4 : decode cX6_init 4 = .ok (.aload_n 0, 1) := by decide +kernel
theorem dX6_init_5 : decode cX6_init 5 = .ok (.new 7, 3) := by decide +kernel
theorem dX6_init_8 : decode cX6_init 8 = .ok (.dup, 1) := by decide +kernel
theorem dX6_init_9 : decode cX6_init 9 = .ok (.invokespecial 9, 3) := by decide +kernel
theorem dX6_init_12 : decode cX6_init 12 = .ok (.putfield 10, 3) := by decide +kernel
theorem dX6_init_15 : decode cX6_init 15 = .ok (.aload_n 0, 1) := by decide +kernel
theorem dX6_init_16 : decode cX6_init 16 = .ok (.new 7, 3) := by decide +kernel
theorem dX6_init_19 : decode cX6_init 19 = .ok (.dup, 1) := by decide +kernel
theorem dX6_init_20 : decode cX6_init 20 = .ok (.invokespecial 9, 3) := by decide +kernel
theorem dX6_init_23 : decode cX6_init 23 = .ok (.putfield 16, 3) := by decide +kernel
theorem dX6_init_26 : decode cX6_init 26 = .ok (.aload_n 0, 1) := by decide +kernel
theorem dX6_init_27 : decode cX6_init 27 = .ok (.bipush 6, 2) := by decide +kernel
theorem dX6_init_29 : decode cX6_init 29 = .ok (.anewarray 19, 3) := by decide +kernel
theorem dX6_init_32 : decode cX6_init 32 = .ok (.putfield 21, 3) := by decide +kernel
theorem dX6_init_35 : decode cX6_init 35 = .ok (.aload_n 0, 1) := by decide +kernel
theorem dX6_init_36 : decode cX6_init 36 = .ok (.iconst 3, 1) := by decide +kernel
theorem dX6_init_37 : decode cX6_init 37 = .ok (.anewarray 25, 3) := by decide +kernel
theorem dX6_init_40 : decode cX6_init 40 = .ok (.putfield 27, 3) := by decide +kernel
theorem dX6_init_43 : decode cX6_init 43 = .ok (.aload_n 0, 1) := by decide +kernel
theorem dX6_init_44 : decode cX6_init 44 = .ok (.new 31, 3) := by decide +kernel
theorem dX6_init_47 : decode cX6_init 47 = .ok (.dup, 1) := by decide +kernel
theorem dX6_init_48 : decode cX6_init 48 = .ok (.invokespecial 33, 3) := by decide +kernel
theorem dX6_init_51 : decode cX6_init 51 = .ok (.putfield 34, 3) := by decide +kernel
theorem dX6_init_54 : decode cX6_init 54 = .ok (.aload_n 0, 1) := by decide +kernel
theorem dX6_init_55 : decode cX6_init 55 = .ok (.iconst 3, 1) := by decide +kernel
theorem dX6_init_56 : decode cX6_init 56 = .ok (.newarray .int, 2) := by decide +kernel
theorem dX6_init_58 : decode cX6_init 58 = .ok (.putfield 38, 3) := by decide +kernel
theorem dX6_init_61 : decode cX6_init 61 = .ok (.aload_n 0, 1) := by decide +kernel
theorem dX6_init_62 : decode cX6_init 62 = .ok (.iconst 5, 1) := by decide +kernel
theorem dX6_init_63 : decode cX6_init 63 = .ok (.putfield 42, 3) := by decide +kernel
theorem dX6_init_66 : decode cX6_init 66 = .ok (.iconst 0, 1) := by decide +kernel
theorem dX6_init_67 : decode cX6_init 67 = .ok (.istore_n 1, 1) := by decide +kernel
theorem dX6_init_68 : decode cX6_init 68 = .ok (.iload_n 1, 1) := by decide +kernel
theorem dX6_init_69 : decode cX6_init 69 = .ok (.bipush 6, 2) := by decide +kernel
theorem dX6_init_71 : decode cX6_init 71 = .ok (.if_icmp .ge 22, 3) := by decide +kernel
theorem dX6_init_74 : decode cX6_init 74 = .ok (.aload_n 0, 1) := by decide +kernel
theorem dX6_init_75 : decode cX6_init 75 = .ok (.getfield 21, 3) := by decide +kernel
theorem dX6_init_78 : decode cX6_init 78 = .ok (.iload_n 1, 1) := by decide +kernel
theorem dX6_init_79 : decode cX6_init 79 = .ok (.new 19, 3) := by decide +kernel
theorem dX6_init_82 : decode cX6_init 82 = .ok (.dup, 1) := by decide +kernel
theorem dX6_init_83 : decode cX6_init 83 = .ok (.invokespecial 46, 3) := by decide +kernel
theorem dX6_init_86 : decode cX6_init 86 = .ok (.aastore, 1) := by decide +kernel
theorem dX6_init_87 : decode cX6_init 87 = .ok (.iinc 1 1, 3) := by decide +kernel
theorem dX6_init_90 : decode cX6_init 90 = .ok (.goto (-22), 3) := by decide +kernel
theorem dX6_init_93 : decode cX6_init 93 = .ok (.iconst 0, 1) := by decide +kernel
theorem dX6_init_94 : decode cX6_init 94 = .ok (.istore_n 1, 1) := by decide +kernel
theorem dX6_init_95 : decode cX6_init 95 = .ok (.iload_n 1, 1) := by decide +kernel
theorem dX6_init_96 : decode cX6_init 96 = .ok (.iconst 3, 1) := by decide +kernel
theorem dX6_init_97 : decode cX6_init 97 = .ok (.if_icmp .ge 22, 3) := by decide +kernel
theorem dX6_init_100 : decode cX6_init 100 = .ok (.aload_n 0, 1) := by decide +kernel
theorem dX6_init_101 : decode cX6_init 101 = .ok (.getfield 27, 3) := by decide +kernel
theorem dX6_init_104 : decode cX6_init 104 = .ok (.iload_n 1, 1) := by decide +kernel
theorem dX6_init_105 : decode cX6_init 105 = .ok (.new 25, 3) := by decide +kernel
theorem dX6_init_108 : decode cX6_init 108 = .ok (.dup, 1) := by decide +kernel
theorem dX6_init_109 : decode cX6_init 109 = .ok (.invokespecial 47, 3) := by decide +kernel
theorem dX6_init_112 : decode cX6_init 112 = .ok (.aastore, 1) := by decide +kernel
theorem dX6_init_113 : decode cX6_init 113 = .ok (.iinc 1 1, 3) := by decide +kernel
theorem dX6_init_116 : decode cX6_init 116 = .ok (.goto (-21), 3) := by decide +kernel
theorem dX6_init_119 : decode cX6_init 119 = .ok (.aload_n 0, 1) := by decide +kernel
theorem dX6_init_120 : decode cX6_init 120 = .ok (.getfield 27, 3) := by decide +kernel
theorem dX6_init_123 : decode cX6_init 123 = .ok (.iconst 0, 1) := by decide +kernel
theorem dX6_init_124 : decode cX6_init 124 = .ok (.aaload, 1) := by decide +kernel
theorem dX6_init_125 : decode cX6_init 125 = .ok (.bipush 100, 2) := by decide +kernel
theorem dX6_init_127 : decode cX6_init 127 = .ok (.putfield 48, 3) := by decide +kernel
theorem dX6_init_130 : decode cX6_init 130 = .ok (.return_, 1) := by decide +kernel
set_option maxRecDepth 20000 in
theorem ggX6_cell_X6_needIndex : GoodIn wsX6_cell wsX6_needIndex := goodIn_ca (goodIn_r _ [8, 9, 10] (by decide +kernel) (by decide +kernel)) (goodIn_sub (fun _ h => List.mem_cons_of_mem _ (List.mem_append_left _ (List.mem_append_right _ h))) (by decide +kernel))
set_option maxRecDepth 20000 in
theorem gX6_cell_X6_needIndex : GoodIn wsX6_cell (va_wsS RX6 51 yX6_needIndex wsX6_needIndex) := goodIn_app (goodIn_of _ (by decide +kernel)) ggX6_cell_X6_needIndex
set_option maxRecDepth 20000 in
theorem ggX6_cell_X6_needWithin : GoodIn wsX6_cell wsX6_needWithin := goodIn_ca (goodIn_r _ [13, 14, 15] (by decide +kernel) (by decide +kernel)) (goodIn_sub (fun _ h => List.mem_cons_of_mem _ (List.mem_append_right _ h)) (by decide +kernel))
set_option maxRecDepth 20000 in
theorem gX6_cell_X6_needWithin : GoodIn wsX6_cell (va_wsS RX6 55 yX6_needWithin wsX6_needWithin) := goodIn_app (goodIn_of _ (by decide +kernel)) ggX6_cell_X6_needWithin
set_option maxRecDepth 20000 in
theorem ggX6_cell_X1_pressure : GoodIn wsX6_cell wsX1_pressure := goodIn_r _ [20, 21, 22, 23, 24, 19, 25, 26, 50, 51, 52, 53] (by decide +kernel) (by decide +kernel)
set_option maxRecDepth 20000 in
theorem gX6_cell_X1_pressure : GoodIn wsX6_cell (wsV RX6 71 RX1 yX1_pressure wsX1_pressure) := goodIn_app (goodIn_of _ (by decide +kernel)) ggX6_cell_X1_pressure
theorem dX6_cell_0 : decode cX6_cell 0 = .ok (.iload_n 1, 1) := by decide +kernel
theorem dX6_cell_1 : decode cX6_cell 1 = .ok (.bipush 16, 2) := by decide +kernel
theorem dX6_cell_3 : decode cX6_cell 3 = .ok (.invokestatic 51, 3) := by decide +kernel
theorem dX6_cell_6 : decode cX6_cell 6 = .ok (.iload_n 2, 1) := by decide +kernel
theorem dX6_cell_7 : decode cX6_cell 7 = .ok (.bipush 10, 2) := by decide +kernel
theorem dX6_cell_9 : decode cX6_cell 9 = .ok (.bipush 90, 2) := by decide +kernel
theorem dX6_cell_11 : decode cX6_cell 11 = .ok (.invokestatic 55, 3) := by decide +kernel
theorem dX6_cell_14 : decode cX6_cell 14 = .ok (.iload_n 3, 1) := by decide +kernel
theorem dX6_cell_15 : decode cX6_cell 15 = .ok (.iconst 0, 1) := by decide +kernel
theorem dX6_cell_16 : decode cX6_cell 16 = .ok (.bipush 99, 2) := by decide +kernel
theorem dX6_cell_18 : decode cX6_cell 18 = .ok (.invokestatic 55, 3) := by decide +kernel
theorem dX6_cell_21 : decode cX6_cell 21 = .ok (.iload 4, 2) := by decide +kernel
theorem dX6_cell_23 : decode cX6_cell 23 = .ok (.iconst 0, 1) := by decide +kernel
theorem dX6_cell_24 : decode cX6_cell 24 = .ok (.bipush 99, 2) := by decide +kernel
theorem dX6_cell_26 : decode cX6_cell 26 = .ok (.invokestatic 55, 3) := by decide +kernel
theorem dX6_cell_29 : decode cX6_cell 29 = .ok (.iload 5, 2) := by decide +kernel
theorem dX6_cell_31 : decode cX6_cell 31 = .ok (.iconst 0, 1) := by decide +kernel
theorem dX6_cell_32 : decode cX6_cell 32 = .ok (.bipush 99, 2) := by decide +kernel
theorem dX6_cell_34 : decode cX6_cell 34 = .ok (.invokestatic 55, 3) := by decide +kernel
theorem dX6_cell_37 : decode cX6_cell 37 = .ok (.aload_n 0, 1) := by decide +kernel
theorem dX6_cell_38 : decode cX6_cell 38 = .ok (.getfield 10, 3) := by decide +kernel
theorem dX6_cell_41 : decode cX6_cell 41 = .ok (.getfield 59, 3) := by decide +kernel
theorem dX6_cell_44 : decode cX6_cell 44 = .ok (.iload_n 1, 1) := by decide +kernel
theorem dX6_cell_45 : decode cX6_cell 45 = .ok (.aaload, 1) := by decide +kernel
theorem dX6_cell_46 : decode cX6_cell 46 = .ok (.astore 6, 2) := by decide +kernel
theorem dX6_cell_48 : decode cX6_cell 48 = .ok (.aload 6, 2) := by decide +kernel
theorem dX6_cell_50 : decode cX6_cell 50 = .ok (.iload_n 2, 1) := by decide +kernel
theorem dX6_cell_51 : decode cX6_cell 51 = .ok (.putfield 63, 3) := by decide +kernel
theorem dX6_cell_54 : decode cX6_cell 54 = .ok (.aload 6, 2) := by decide +kernel
theorem dX6_cell_56 : decode cX6_cell 56 = .ok (.getfield 68, 3) := by decide +kernel
theorem dX6_cell_59 : decode cX6_cell 59 = .ok (.iconst 0, 1) := by decide +kernel
theorem dX6_cell_60 : decode cX6_cell 60 = .ok (.iload_n 3, 1) := by decide +kernel
theorem dX6_cell_61 : decode cX6_cell 61 = .ok (.iastore, 1) := by decide +kernel
theorem dX6_cell_62 : decode cX6_cell 62 = .ok (.aload 6, 2) := by decide +kernel
end
section
theorem dX6_cell_64 : decode cX6_cell 64 = .ok (.getfield 68, 3) := by decide +kernel
theorem dX6_cell_67 : decode cX6_cell 67 = .ok (.iconst 1, 1) := by decide +kernel
theorem dX6_cell_68 : decode cX6_cell 68 = .ok (.iload 4, 2) := by decide +kernel
theorem dX6_cell_70 : decode cX6_cell 70 = .ok (.iastore, 1) := by decide +kernel
theorem dX6_cell_71 : decode cX6_cell 71 = .ok (.aload 6, 2) := by decide +kernel
theorem dX6_cell_73 : decode cX6_cell 73 = .ok (.getfield 68, 3) := by decide +kernel
theorem dX6_cell_76 : decode cX6_cell 76 = .ok (.iconst 2, 1) := by decide +kernel
theorem dX6_cell_77 : decode cX6_cell 77 = .ok (.iload 5, 2) := by decide +kernel
theorem dX6_cell_79 : decode cX6_cell 79 = .ok (.iastore, 1) := by decide +kernel
theorem dX6_cell_80 : decode cX6_cell 80 = .ok (.aload 6, 2) := by decide +kernel
theorem dX6_cell_82 : decode cX6_cell 82 = .ok (.invokevirtual 71, 3) := by decide +kernel
theorem dX6_cell_85 : decode cX6_cell 85 = .ok (.ireturn, 1) := by decide +kernel
set_option maxRecDepth 20000 in
theorem ggX6_fault_X6_needNeighbour : GoodIn wsX6_fault wsX6_needNeighbour := goodIn_ca (goodIn_r _ [6, 7, 8, 9, 10, 5, 11, 12, 13, 14] (by decide +kernel) (by decide +kernel)) (goodIn_sub (fun _ h => List.mem_cons_of_mem _ (List.mem_append_right _ h)) (by decide +kernel))
set_option maxRecDepth 20000 in
theorem gX6_fault_X6_needNeighbour : GoodIn wsX6_fault (va_wsS RX6 75 yX6_needNeighbour wsX6_needNeighbour) := goodIn_app (goodIn_of _ (by decide +kernel)) ggX6_fault_X6_needNeighbour
set_option maxRecDepth 20000 in
theorem ggX6_fault_X1_isShut : GoodIn wsX6_fault wsX1_isShut := goodIn_r _ [19, 20, 21, 49, 50, 51, 52] (by decide +kernel) (by decide +kernel)
set_option maxRecDepth 20000 in
theorem gX6_fault_X1_isShut : GoodIn wsX6_fault (wsV RX6 79 RX1 yX1_isShut wsX1_isShut) := goodIn_app (goodIn_of _ (by decide +kernel)) ggX6_fault_X1_isShut
set_option maxRecDepth 20000 in
theorem ggX6_fault_X1_shut : GoodIn wsX6_fault wsX1_shut := goodIn_r _ [25, 20, 21, 49, 50, 51, 52] (by decide +kernel) (by decide +kernel)
set_option maxRecDepth 20000 in
theorem gX6_fault_X1_shut : GoodIn wsX6_fault (wsV RX6 83 RX1 yX1_shut wsX1_shut) := goodIn_app (goodIn_of _ (by decide +kernel)) ggX6_fault_X1_shut
theorem dX6_fault_0 : decode cX6_fault 0 = .ok (.iload_n 1, 1) := by decide +kernel
theorem dX6_fault_1 : decode cX6_fault 1 = .ok (.iload_n 2, 1) := by decide +kernel
theorem dX6_fault_2 : decode cX6_fault 2 = .ok (.invokestatic 75, 3) := by decide +kernel
theorem dX6_fault_5 : decode cX6_fault 5 = .ok (.aload_n 0, 1) := by decide +kernel
theorem dX6_fault_6 : decode cX6_fault 6 = .ok (.getfield 10, 3) := by decide +kernel
theorem dX6_fault_9 : decode cX6_fault 9 = .ok (.getfield 59, 3) := by decide +kernel
theorem dX6_fault_12 : decode cX6_fault 12 = .ok (.iload_n 1, 1) := by decide +kernel
theorem dX6_fault_13 : decode cX6_fault 13 = .ok (.aaload, 1) := by decide +kernel
theorem dX6_fault_14 : decode cX6_fault 14 = .ok (.astore 4, 2) := by decide +kernel
theorem dX6_fault_16 : decode cX6_fault 16 = .ok (.aload 4, 2) := by decide +kernel
theorem dX6_fault_18 : decode cX6_fault 18 = .ok (.iload_n 2, 1) := by decide +kernel
theorem dX6_fault_19 : decode cX6_fault 19 = .ok (.invokevirtual 79, 3) := by decide +kernel
theorem dX6_fault_22 : decode cX6_fault 22 = .ok (.istore 5, 2) := by decide +kernel
theorem dX6_fault_24 : decode cX6_fault 24 = .ok (.aload 4, 2) := by decide +kernel
theorem dX6_fault_26 : decode cX6_fault 26 = .ok (.iload_n 2, 1) := by decide +kernel
theorem dX6_fault_27 : decode cX6_fault 27 = .ok (.iload_n 3, 1) := by decide +kernel
theorem dX6_fault_28 : decode cX6_fault 28 = .ok (.invokevirtual 83, 3) := by decide +kernel
theorem dX6_fault_31 : decode cX6_fault 31 = .ok (.iload 5, 2) := by decide +kernel
theorem dX6_fault_33 : decode cX6_fault 33 = .ok (.ireturn, 1) := by decide +kernel
set_option maxRecDepth 20000 in
theorem ggX6_well_X6_needIndex : GoodIn wsX6_well wsX6_needIndex := goodIn_ca (goodIn_r _ [11, 12, 13] (by decide +kernel) (by decide +kernel)) (goodIn_sub (fun _ h => List.mem_cons_of_mem _ (List.mem_append_left _ (List.mem_append_right _ h))) (by decide +kernel))
set_option maxRecDepth 20000 in
theorem gX6_well_X6_needIndex : GoodIn wsX6_well (va_wsS RX6 51 yX6_needIndex wsX6_needIndex) := goodIn_app (goodIn_of _ (by decide +kernel)) ggX6_well_X6_needIndex
set_option maxRecDepth 20000 in
theorem ggX6_well_X6_needWithin : GoodIn wsX6_well wsX6_needWithin := goodIn_ca (goodIn_r _ [16, 17, 18] (by decide +kernel) (by decide +kernel)) (goodIn_sub (fun _ h => List.mem_cons_of_mem _ (List.mem_append_right _ h)) (by decide +kernel))
set_option maxRecDepth 20000 in
theorem gX6_well_X6_needWithin : GoodIn wsX6_well (va_wsS RX6 55 yX6_needWithin wsX6_needWithin) := goodIn_app (goodIn_of _ (by decide +kernel)) ggX6_well_X6_needWithin
theorem dX6_well_0 : decode cX6_well 0 = .ok (.iload_n 2, 1) := by decide +kernel
theorem dX6_well_1 : decode cX6_well 1 = .ok (.bipush 16, 2) := by decide +kernel
theorem dX6_well_3 : decode cX6_well 3 = .ok (.invokestatic 51, 3) := by decide +kernel
theorem dX6_well_6 : decode cX6_well 6 = .ok (.iload_n 1, 1) := by decide +kernel
theorem dX6_well_7 : decode cX6_well 7 = .ok (.iconst 0, 1) := by decide +kernel
theorem dX6_well_8 : decode cX6_well 8 = .ok (.iconst 2, 1) := by decide +kernel
theorem dX6_well_9 : decode cX6_well 9 = .ok (.invokestatic 55, 3) := by decide +kernel
theorem dX6_well_12 : decode cX6_well 12 = .ok (.aload_n 0, 1) := by decide +kernel
theorem dX6_well_13 : decode cX6_well 13 = .ok (.getfield 10, 3) := by decide +kernel
theorem dX6_well_16 : decode cX6_well 16 = .ok (.getfield 87, 3) := by decide +kernel
theorem dX6_well_19 : decode cX6_well 19 = .ok (.bipush 6, 2) := by decide +kernel
theorem dX6_well_21 : decode cX6_well 21 = .ok (.if_icmp .lt 13, 3) := by decide +kernel
theorem dX6_well_24 : decode cX6_well 24 = .ok (.new 90, 3) := by decide +kernel
theorem dX6_well_27 : decode cX6_well 27 = .ok (.dup, 1) := by decide +kernel
theorem dX6_well_28 : decode cX6_well 28 = .ok (.ldc 92, 2) := by decide +kernel
theorem dX6_well_30 : decode cX6_well 30 = .ok (.invokespecial 94, 3) := by decide +kernel
theorem dX6_well_33 : decode cX6_well 33 = .ok (.athrow, 1) := by decide +kernel
theorem dX6_well_34 : decode cX6_well 34 = .ok (.aload_n 0, 1) := by decide +kernel
theorem dX6_well_35 : decode cX6_well 35 = .ok (.getfield 10, 3) := by decide +kernel
theorem dX6_well_38 : decode cX6_well 38 = .ok (.getfield 87, 3) := by decide +kernel
theorem dX6_well_41 : decode cX6_well 41 = .ok (.istore_n 3, 1) := by decide +kernel
theorem dX6_well_42 : decode cX6_well 42 = .ok (.aload_n 0, 1) := by decide +kernel
theorem dX6_well_43 : decode cX6_well 43 = .ok (.getfield 10, 3) := by decide +kernel
theorem dX6_well_46 : decode cX6_well 46 = .ok (.getfield 97, 3) := by decide +kernel
theorem dX6_well_49 : decode cX6_well 49 = .ok (.iload_n 3, 1) := by decide +kernel
theorem dX6_well_50 : decode cX6_well 50 = .ok (.aaload, 1) := by decide +kernel
theorem dX6_well_51 : decode cX6_well 51 = .ok (.iload_n 1, 1) := by decide +kernel
theorem dX6_well_52 : decode cX6_well 52 = .ok (.putfield 101, 3) := by decide +kernel
theorem dX6_well_55 : decode cX6_well 55 = .ok (.aload_n 0, 1) := by decide +kernel
theorem dX6_well_56 : decode cX6_well 56 = .ok (.getfield 10, 3) := by decide +kernel
theorem dX6_well_59 : decode cX6_well 59 = .ok (.getfield 97, 3) := by decide +kernel
theorem dX6_well_62 : decode cX6_well 62 = .ok (.iload_n 3, 1) := by decide +kernel
theorem dX6_well_63 : decode cX6_well 63 = .ok (.aaload, 1) := by decide +kernel
theorem dX6_well_64 : decode cX6_well 64 = .ok (.iload_n 2, 1) := by decide +kernel
theorem dX6_well_65 : decode cX6_well 65 = .ok (.putfield 106, 3) := by decide +kernel
theorem dX6_well_68 : decode cX6_well 68 = .ok (.aload_n 0, 1) := by decide +kernel
theorem dX6_well_69 : decode cX6_well 69 = .ok (.getfield 10, 3) := by decide +kernel
theorem dX6_well_72 : decode cX6_well 72 = .ok (.iload_n 3, 1) := by decide +kernel
theorem dX6_well_73 : decode cX6_well 73 = .ok (.iconst 1, 1) := by decide +kernel
theorem dX6_well_74 : decode cX6_well 74 = .ok (.iadd, 1) := by decide +kernel
theorem dX6_well_75 : decode cX6_well 75 = .ok (.putfield 87, 3) := by decide +kernel
theorem dX6_well_78 : decode cX6_well 78 = .ok (.iload_n 3, 1) := by decide +kernel
theorem dX6_well_79 : decode cX6_well 79 = .ok (.ireturn, 1) := by decide +kernel
set_option maxRecDepth 20000 in
theorem ggX6_choke_X6_needIndex : GoodIn wsX6_choke wsX6_needIndex := goodIn_ca (goodIn_r _ [8, 9, 10] (by decide +kernel) (by decide +kernel)) (goodIn_sub (fun _ h => List.mem_cons_of_mem _ (List.mem_append_left _ (List.mem_append_left _ (List.mem_append_right _ h)))) (by decide +kernel))
set_option maxRecDepth 20000 in
theorem gX6_choke_X6_needIndex : GoodIn wsX6_choke (va_wsS RX6 51 yX6_needIndex wsX6_needIndex) := goodIn_app (goodIn_of _ (by decide +kernel)) ggX6_choke_X6_needIndex
set_option maxRecDepth 20000 in
theorem ggX6_choke_X6_needWithin : GoodIn wsX6_choke wsX6_needWithin := goodIn_ca (goodIn_r _ [13, 14, 15] (by decide +kernel) (by decide +kernel)) (goodIn_sub (fun _ h => List.mem_cons_of_mem _ (List.mem_append_left _ (List.mem_append_right _ h))) (by decide +kernel))
set_option maxRecDepth 20000 in
theorem gX6_choke_X6_needWithin : GoodIn wsX6_choke (va_wsS RX6 55 yX6_needWithin wsX6_needWithin) := goodIn_app (goodIn_of _ (by decide +kernel)) ggX6_choke_X6_needWithin
set_option maxRecDepth 20000 in
theorem ggX6_choke_X6_needOpen : GoodIn wsX6_choke wsX6_needOpen := goodIn_ca (goodIn_r _ [19, 20, 21, 22, 23, 24, 25, 26, 27, 28, 29, 30, 31, 32, 33, 34, 52, 53, 54, 55, 56] (by decide +kernel) (by decide +kernel)) (goodIn_sub (fun _ h => List.mem_cons_of_mem _ (List.mem_append_right _ h)) (by decide +kernel))
set_option maxRecDepth 20000 in
theorem gX6_choke_X6_needOpen : GoodIn wsX6_choke (wsV RX6 109 RX6 yX6_needOpen wsX6_needOpen) := goodIn_app (goodIn_of _ (by decide +kernel)) ggX6_choke_X6_needOpen
theorem dX6_choke_0 : decode cX6_choke 0 = .ok (.iload_n 1, 1) := by decide +kernel
theorem dX6_choke_1 : decode cX6_choke 1 = .ok (.aload_n 0, 1) := by decide +kernel
theorem dX6_choke_2 : decode cX6_choke 2 = .ok (.getfield 10, 3) := by decide +kernel
theorem dX6_choke_5 : decode cX6_choke 5 = .ok (.getfield 87, 3) := by decide +kernel
theorem dX6_choke_8 : decode cX6_choke 8 = .ok (.invokestatic 51, 3) := by decide +kernel
theorem dX6_choke_11 : decode cX6_choke 11 = .ok (.iload_n 2, 1) := by decide +kernel
theorem dX6_choke_12 : decode cX6_choke 12 = .ok (.iconst 0, 1) := by decide +kernel
theorem dX6_choke_13 : decode cX6_choke 13 = .ok (.bipush 9, 2) := by decide +kernel
theorem dX6_choke_15 : decode cX6_choke 15 = .ok (.invokestatic 55, 3) := by decide +kernel
theorem dX6_choke_18 : decode cX6_choke 18 = .ok (.aload_n 0, 1) := by decide +kernel
theorem dX6_choke_19 : decode cX6_choke 19 = .ok (.iload_n 1, 1) := by decide +kernel
theorem dX6_choke_20 : decode cX6_choke 20 = .ok (.invokevirtual 109, 3) := by decide +kernel
theorem dX6_choke_23 : decode cX6_choke 23 = .ok (.aload_n 0, 1) := by decide +kernel
theorem dX6_choke_24 : decode cX6_choke 24 = .ok (.getfield 10, 3) := by decide +kernel
theorem dX6_choke_27 : decode cX6_choke 27 = .ok (.getfield 97, 3) := by decide +kernel
theorem dX6_choke_30 : decode cX6_choke 30 = .ok (.iload_n 1, 1) := by decide +kernel
theorem dX6_choke_31 : decode cX6_choke 31 = .ok (.aaload, 1) := by decide +kernel
theorem dX6_choke_32 : decode cX6_choke 32 = .ok (.getfield 113, 3) := by decide +kernel
theorem dX6_choke_35 : decode cX6_choke 35 = .ok (.istore_n 3, 1) := by decide +kernel
theorem dX6_choke_36 : decode cX6_choke 36 = .ok (.aload_n 0, 1) := by decide +kernel
theorem dX6_choke_37 : decode cX6_choke 37 = .ok (.getfield 10, 3) := by decide +kernel
theorem dX6_choke_40 : decode cX6_choke 40 = .ok (.getfield 97, 3) := by decide +kernel
theorem dX6_choke_43 : decode cX6_choke 43 = .ok (.iload_n 1, 1) := by decide +kernel
theorem dX6_choke_44 : decode cX6_choke 44 = .ok (.aaload, 1) := by decide +kernel
theorem dX6_choke_45 : decode cX6_choke 45 = .ok (.iload_n 2, 1) := by decide +kernel
theorem dX6_choke_46 : decode cX6_choke 46 = .ok (.putfield 113, 3) := by decide +kernel
theorem dX6_choke_49 : decode cX6_choke 49 = .ok (.iload_n 3, 1) := by decide +kernel
theorem dX6_choke_50 : decode cX6_choke 50 = .ok (.ireturn, 1) := by decide +kernel
set_option maxRecDepth 20000 in
theorem ggX6_rank_X6_needIndex : GoodIn wsX6_rank wsX6_needIndex := goodIn_ca (goodIn_r _ [8, 9, 10] (by decide +kernel) (by decide +kernel)) (goodIn_sub (fun _ h => List.mem_cons_of_mem _ (List.mem_append_left _ (List.mem_append_right _ h))) (by decide +kernel))
set_option maxRecDepth 20000 in
theorem gX6_rank_X6_needIndex : GoodIn wsX6_rank (va_wsS RX6 51 yX6_needIndex wsX6_needIndex) := goodIn_app (goodIn_of _ (by decide +kernel)) ggX6_rank_X6_needIndex
set_option maxRecDepth 20000 in
theorem ggX6_rank_X6_needWithin : GoodIn wsX6_rank wsX6_needWithin := goodIn_ca (goodIn_r _ [13, 14, 15] (by decide +kernel) (by decide +kernel)) (goodIn_sub (fun _ h => List.mem_cons_of_mem _ (List.mem_append_right _ h)) (by decide +kernel))
set_option maxRecDepth 20000 in
theorem gX6_rank_X6_needWithin : GoodIn wsX6_rank (va_wsS RX6 55 yX6_needWithin wsX6_needWithin) := goodIn_app (goodIn_of _ (by decide +kernel)) ggX6_rank_X6_needWithin
theorem dX6_rank_0 : decode cX6_rank 0 = .ok (.iload_n 1, 1) := by decide +kernel
theorem dX6_rank_1 : decode cX6_rank 1 = .ok (.aload_n 0, 1) := by decide +kernel
theorem dX6_rank_2 : decode cX6_rank 2 = .ok (.getfield 10, 3) := by decide +kernel
theorem dX6_rank_5 : decode cX6_rank 5 = .ok (.getfield 87, 3) := by decide +kernel
theorem dX6_rank_8 : decode cX6_rank 8 = .ok (.invokestatic 51, 3) := by decide +kernel
theorem dX6_rank_11 : decode cX6_rank 11 = .ok (.iload_n 2, 1) := by decide +kernel
theorem dX6_rank_12 : decode cX6_rank 12 = .ok (.iconst 1, 1) := by decide +kernel
theorem dX6_rank_13 : decode cX6_rank 13 = .ok (.bipush 9, 2) := by decide +kernel
theorem dX6_rank_15 : decode cX6_rank 15 = .ok (.invokestatic 55, 3) := by decide +kernel
theorem dX6_rank_18 : decode cX6_rank 18 = .ok (.aload_n 0, 1) := by decide +kernel
theorem dX6_rank_19 : decode cX6_rank 19 = .ok (.getfield 10, 3) := by decide +kernel
theorem dX6_rank_22 : decode cX6_rank 22 = .ok (.getfield 97, 3) := by decide +kernel
theorem dX6_rank_25 : decode cX6_rank 25 = .ok (.iload_n 1, 1) := by decide +kernel
theorem dX6_rank_26 : decode cX6_rank 26 = .ok (.aaload, 1) := by decide +kernel
theorem dX6_rank_27 : decode cX6_rank 27 = .ok (.getfield 116, 3) := by decide +kernel
theorem dX6_rank_30 : decode cX6_rank 30 = .ok (.istore_n 3, 1) := by decide +kernel
theorem dX6_rank_31 : decode cX6_rank 31 = .ok (.aload_n 0, 1) := by decide +kernel
theorem dX6_rank_32 : decode cX6_rank 32 = .ok (.getfield 10, 3) := by decide +kernel
theorem dX6_rank_35 : decode cX6_rank 35 = .ok (.getfield 97, 3) := by decide +kernel
theorem dX6_rank_38 : decode cX6_rank 38 = .ok (.iload_n 1, 1) := by decide +kernel
theorem dX6_rank_39 : decode cX6_rank 39 = .ok (.aaload, 1) := by decide +kernel
theorem dX6_rank_40 : decode cX6_rank 40 = .ok (.iload_n 2, 1) := by decide +kernel
theorem dX6_rank_41 : decode cX6_rank 41 = .ok (.putfield 116, 3) := by decide +kernel
theorem dX6_rank_44 : decode cX6_rank 44 = .ok (.iload_n 3, 1) := by decide +kernel
theorem dX6_rank_45 : decode cX6_rank 45 = .ok (.ireturn, 1) := by decide +kernel
set_option maxRecDepth 20000 in
theorem ggX6_test_X6_needIndex : GoodIn wsX6_test wsX6_needIndex := goodIn_ca (goodIn_r _ [12, 13, 14] (by decide +kernel) (by decide +kernel)) (goodIn_sub (fun _ h => List.mem_cons_of_mem _ (List.mem_append_right _ h)) (by decide +kernel))
set_option maxRecDepth 20000 in
theorem gX6_test_X6_needIndex : GoodIn wsX6_test (va_wsS RX6 51 yX6_needIndex wsX6_needIndex) := goodIn_app (goodIn_of _ (by decide +kernel)) ggX6_test_X6_needIndex
set_option maxRecDepth 20000 in
theorem ggX6_test_X6_needOpen : GoodIn wsX6_test wsX6_needOpen := goodIn_ca (goodIn_r _ [18, 1, 2, 7, 19, 20, 21, 22, 23, 24, 25, 26, 27, 28, 29, 30, 48, 49, 50, 51, 52] (by decide +kernel) (by decide +kernel)) (goodIn_sub (fun _ h => List.mem_cons_of_mem _ (List.mem_append_left _ (List.mem_append_right _ h))) (by decide +kernel))
set_option maxRecDepth 20000 in
theorem gX6_test_X6_needOpen : GoodIn wsX6_test (wsV RX6 109 RX6 yX6_needOpen wsX6_needOpen) := goodIn_app (goodIn_of _ (by decide +kernel)) ggX6_test_X6_needOpen
theorem dX6_test_0 : decode cX6_test 0 = .ok (.iload_n 1, 1) := by decide +kernel
theorem dX6_test_1 : decode cX6_test 1 = .ok (.aload_n 0, 1) := by decide +kernel
theorem dX6_test_2 : decode cX6_test 2 = .ok (.getfield 10, 3) := by decide +kernel
theorem dX6_test_5 : decode cX6_test 5 = .ok (.getfield 87, 3) := by decide +kernel
theorem dX6_test_8 : decode cX6_test 8 = .ok (.invokestatic 51, 3) := by decide +kernel
theorem dX6_test_11 : decode cX6_test 11 = .ok (.aload_n 0, 1) := by decide +kernel
theorem dX6_test_12 : decode cX6_test 12 = .ok (.iload_n 1, 1) := by decide +kernel
theorem dX6_test_13 : decode cX6_test 13 = .ok (.invokevirtual 109, 3) := by decide +kernel
theorem dX6_test_16 : decode cX6_test 16 = .ok (.aload_n 0, 1) := by decide +kernel
theorem dX6_test_17 : decode cX6_test 17 = .ok (.getfield 10, 3) := by decide +kernel
theorem dX6_test_20 : decode cX6_test 20 = .ok (.getfield 97, 3) := by decide +kernel
theorem dX6_test_23 : decode cX6_test 23 = .ok (.iload_n 1, 1) := by decide +kernel
theorem dX6_test_24 : decode cX6_test 24 = .ok (.aaload, 1) := by decide +kernel
theorem dX6_test_25 : decode cX6_test 25 = .ok (.getfield 101, 3) := by decide +kernel
theorem dX6_test_28 : decode cX6_test 28 = .ok (.ifCond .eq 13, 3) := by decide +kernel
theorem dX6_test_31 : decode cX6_test 31 = .ok (.new 90, 3) := by decide +kernel
theorem dX6_test_34 : decode cX6_test 34 = .ok (.dup, 1) := by decide +kernel
theorem dX6_test_35 : decode cX6_test 35 = .ok (.ldc 119, 2) := by decide +kernel
theorem dX6_test_37 : decode cX6_test 37 = .ok (.invokespecial 94, 3) := by decide +kernel
theorem dX6_test_40 : decode cX6_test 40 = .ok (.athrow, 1) := by decide +kernel
theorem dX6_test_41 : decode cX6_test 41 = .ok (.aload_n 0, 1) := by decide +kernel
theorem dX6_test_42 : decode cX6_test 42 = .ok (.getfield 21, 3) := by decide +kernel
theorem dX6_test_45 : decode cX6_test 45 = .ok (.iload_n 1, 1) := by decide +kernel
theorem dX6_test_46 : decode cX6_test 46 = .ok (.aaload, 1) := by decide +kernel
theorem dX6_test_47 : decode cX6_test 47 = .ok (.getfield 121, 3) := by decide +kernel
theorem dX6_test_50 : decode cX6_test 50 = .ok (.istore_n 2, 1) := by decide +kernel
theorem dX6_test_51 : decode cX6_test 51 = .ok (.aload_n 0, 1) := by decide +kernel
theorem dX6_test_52 : decode cX6_test 52 = .ok (.getfield 21, 3) := by decide +kernel
theorem dX6_test_55 : decode cX6_test 55 = .ok (.iload_n 1, 1) := by decide +kernel
theorem dX6_test_56 : decode cX6_test 56 = .ok (.aaload, 1) := by decide +kernel
theorem dX6_test_57 : decode cX6_test 57 = .ok (.iconst 1, 1) := by decide +kernel
theorem dX6_test_58 : decode cX6_test 58 = .ok (.putfield 121, 3) := by decide +kernel
theorem dX6_test_61 : decode cX6_test 61 = .ok (.iload_n 2, 1) := by decide +kernel
theorem dX6_test_62 : decode cX6_test 62 = .ok (.ireturn, 1) := by decide +kernel
set_option maxRecDepth 20000 in
theorem ggX6_plug_X6_needIndex : GoodIn wsX6_plug wsX6_needIndex := goodIn_ca (goodIn_r _ [10, 11, 12] (by decide +kernel) (by decide +kernel)) (goodIn_sub (fun _ h => List.mem_cons_of_mem _ (List.mem_append_left _ (List.mem_append_right _ h))) (by decide +kernel))
set_option maxRecDepth 20000 in
theorem gX6_plug_X6_needIndex : GoodIn wsX6_plug (va_wsS RX6 51 yX6_needIndex wsX6_needIndex) := goodIn_app (goodIn_of _ (by decide +kernel)) ggX6_plug_X6_needIndex
set_option maxRecDepth 20000 in
theorem ggX6_plug_X6_needOpen : GoodIn wsX6_plug wsX6_needOpen := goodIn_ca (goodIn_r _ [16, 17, 18, 5, 6, 19, 20, 21, 22, 23, 24, 25, 26, 27, 28, 29, 47, 48, 49, 50, 51] (by decide +kernel) (by decide +kernel)) (goodIn_sub (fun _ h => List.mem_cons_of_mem _ (List.mem_append_right _ h)) (by decide +kernel))
set_option maxRecDepth 20000 in
theorem gX6_plug_X6_needOpen : GoodIn wsX6_plug (wsV RX6 109 RX6 yX6_needOpen wsX6_needOpen) := goodIn_app (goodIn_of _ (by decide +kernel)) ggX6_plug_X6_needOpen
theorem dX6_plug_0 : decode cX6_plug 0 = .ok (.iload_n 1, 1) := by decide +kernel
theorem dX6_plug_1 : decode cX6_plug 1 = .ok (.aload_n 0, 1) := by decide +kernel
theorem dX6_plug_2 : decode cX6_plug 2 = .ok (.getfield 10, 3) := by decide +kernel
theorem dX6_plug_5 : decode cX6_plug 5 = .ok (.getfield 87, 3) := by decide +kernel
theorem dX6_plug_8 : decode cX6_plug 8 = .ok (.invokestatic 51, 3) := by decide +kernel
theorem dX6_plug_11 : decode cX6_plug 11 = .ok (.aload_n 0, 1) := by decide +kernel
theorem dX6_plug_12 : decode cX6_plug 12 = .ok (.iload_n 1, 1) := by decide +kernel
theorem dX6_plug_13 : decode cX6_plug 13 = .ok (.invokevirtual 109, 3) := by decide +kernel
theorem dX6_plug_16 : decode cX6_plug 16 = .ok (.aload_n 0, 1) := by decide +kernel
theorem dX6_plug_17 : decode cX6_plug 17 = .ok (.getfield 10, 3) := by decide +kernel
theorem dX6_plug_20 : decode cX6_plug 20 = .ok (.getfield 97, 3) := by decide +kernel
theorem dX6_plug_23 : decode cX6_plug 23 = .ok (.iload_n 1, 1) := by decide +kernel
theorem dX6_plug_24 : decode cX6_plug 24 = .ok (.aaload, 1) := by decide +kernel
theorem dX6_plug_25 : decode cX6_plug 25 = .ok (.getfield 113, 3) := by decide +kernel
theorem dX6_plug_28 : decode cX6_plug 28 = .ok (.istore_n 2, 1) := by decide +kernel
theorem dX6_plug_29 : decode cX6_plug 29 = .ok (.aload_n 0, 1) := by decide +kernel
theorem dX6_plug_30 : decode cX6_plug 30 = .ok (.getfield 10, 3) := by decide +kernel
theorem dX6_plug_33 : decode cX6_plug 33 = .ok (.getfield 97, 3) := by decide +kernel
theorem dX6_plug_36 : decode cX6_plug 36 = .ok (.iload_n 1, 1) := by decide +kernel
theorem dX6_plug_37 : decode cX6_plug 37 = .ok (.aaload, 1) := by decide +kernel
theorem dX6_plug_38 : decode cX6_plug 38 = .ok (.iconst 0, 1) := by decide +kernel
theorem dX6_plug_39 : decode cX6_plug 39 = .ok (.putfield 113, 3) := by decide +kernel
theorem dX6_plug_42 : decode cX6_plug 42 = .ok (.aload_n 0, 1) := by decide +kernel
theorem dX6_plug_43 : decode cX6_plug 43 = .ok (.getfield 21, 3) := by decide +kernel
theorem dX6_plug_46 : decode cX6_plug 46 = .ok (.iload_n 1, 1) := by decide +kernel
theorem dX6_plug_47 : decode cX6_plug 47 = .ok (.aaload, 1) := by decide +kernel
theorem dX6_plug_48 : decode cX6_plug 48 = .ok (.iconst 1, 1) := by decide +kernel
theorem dX6_plug_49 : decode cX6_plug 49 = .ok (.putfield 125, 3) := by decide +kernel
theorem dX6_plug_52 : decode cX6_plug 52 = .ok (.iload_n 2, 1) := by decide +kernel
theorem dX6_plug_53 : decode cX6_plug 53 = .ok (.ireturn, 1) := by decide +kernel
set_option maxRecDepth 20000 in
theorem ggX6_capacity_X6_needIndex : GoodIn wsX6_capacity wsX6_needIndex := goodIn_ca (goodIn_r _ [6, 7, 8] (by decide +kernel) (by decide +kernel)) (goodIn_sub (fun _ h => List.mem_cons_of_mem _ (List.mem_append_left _ (List.mem_append_right _ h))) (by decide +kernel))
set_option maxRecDepth 20000 in
theorem gX6_capacity_X6_needIndex : GoodIn wsX6_capacity (va_wsS RX6 51 yX6_needIndex wsX6_needIndex) := goodIn_app (goodIn_of _ (by decide +kernel)) ggX6_capacity_X6_needIndex
set_option maxRecDepth 20000 in
theorem ggX6_capacity_X6_needWithin : GoodIn wsX6_capacity wsX6_needWithin := goodIn_ca (goodIn_r _ [11, 12, 13] (by decide +kernel) (by decide +kernel)) (goodIn_sub (fun _ h => List.mem_cons_of_mem _ (List.mem_append_right _ h)) (by decide +kernel))
set_option maxRecDepth 20000 in
theorem gX6_capacity_X6_needWithin : GoodIn wsX6_capacity (va_wsS RX6 55 yX6_needWithin wsX6_needWithin) := goodIn_app (goodIn_of _ (by decide +kernel)) ggX6_capacity_X6_needWithin
theorem dX6_capacity_0 : decode cX6_capacity 0 = .ok (.iload_n 1, 1) := by decide +kernel
theorem dX6_capacity_1 : decode cX6_capacity 1 = .ok (.iconst 3, 1) := by decide +kernel
theorem dX6_capacity_2 : decode cX6_capacity 2 = .ok (.invokestatic 51, 3) := by decide +kernel
theorem dX6_capacity_5 : decode cX6_capacity 5 = .ok (.iload_n 2, 1) := by decide +kernel
theorem dX6_capacity_6 : decode cX6_capacity 6 = .ok (.iconst 0, 1) := by decide +kernel
theorem dX6_capacity_7 : decode cX6_capacity 7 = .ok (.bipush 99, 2) := by decide +kernel
theorem dX6_capacity_9 : decode cX6_capacity 9 = .ok (.invokestatic 55, 3) := by decide +kernel
theorem dX6_capacity_12 : decode cX6_capacity 12 = .ok (.aload_n 0, 1) := by decide +kernel
theorem dX6_capacity_13 : decode cX6_capacity 13 = .ok (.getfield 10, 3) := by decide +kernel
theorem dX6_capacity_16 : decode cX6_capacity 16 = .ok (.getfield 128, 3) := by decide +kernel
theorem dX6_capacity_19 : decode cX6_capacity 19 = .ok (.iload_n 1, 1) := by decide +kernel
theorem dX6_capacity_20 : decode cX6_capacity 20 = .ok (.iaload, 1) := by decide +kernel
theorem dX6_capacity_21 : decode cX6_capacity 21 = .ok (.istore_n 3, 1) := by decide +kernel
theorem dX6_capacity_22 : decode cX6_capacity 22 = .ok (.aload_n 0, 1) := by decide +kernel
theorem dX6_capacity_23 : decode cX6_capacity 23 = .ok (.getfield 10, 3) := by decide +kernel
theorem dX6_capacity_26 : decode cX6_capacity 26 = .ok (.getfield 128, 3) := by decide +kernel
theorem dX6_capacity_29 : decode cX6_capacity 29 = .ok (.iload_n 1, 1) := by decide +kernel
theorem dX6_capacity_30 : decode cX6_capacity 30 = .ok (.iload_n 2, 1) := by decide +kernel
theorem dX6_capacity_31 : decode cX6_capacity 31 = .ok (.iastore, 1) := by decide +kernel
theorem dX6_capacity_32 : decode cX6_capacity 32 = .ok (.iload_n 3, 1) := by decide +kernel
theorem dX6_capacity_33 : decode cX6_capacity 33 = .ok (.ireturn, 1) := by decide +kernel
set_option maxRecDepth 20000 in
theorem ggX6_permit_X6_needWithin : GoodIn wsX6_permit wsX6_needWithin := goodIn_ca (goodIn_r _ [6, 7, 8] (by decide +kernel) (by decide +kernel)) (goodIn_sub (fun _ h => List.mem_cons_of_mem _ (List.mem_append_right _ h)) (by decide +kernel))
set_option maxRecDepth 20000 in
theorem gX6_permit_X6_needWithin : GoodIn wsX6_permit (va_wsS RX6 55 yX6_needWithin wsX6_needWithin) := goodIn_app (goodIn_of _ (by decide +kernel)) ggX6_permit_X6_needWithin
theorem dX6_permit_0 : decode cX6_permit 0 = .ok (.iload_n 1, 1) := by decide +kernel
theorem dX6_permit_1 : decode cX6_permit 1 = .ok (.iconst 0, 1) := by decide +kernel
theorem dX6_permit_2 : decode cX6_permit 2 = .ok (.bipush 99, 2) := by decide +kernel
theorem dX6_permit_4 : decode cX6_permit 4 = .ok (.invokestatic 55, 3) := by decide +kernel
theorem dX6_permit_7 : decode cX6_permit 7 = .ok (.aload_n 0, 1) := by decide +kernel
theorem dX6_permit_8 : decode cX6_permit 8 = .ok (.getfield 10, 3) := by decide +kernel
theorem dX6_permit_11 : decode cX6_permit 11 = .ok (.getfield 131, 3) := by decide +kernel
theorem dX6_permit_14 : decode cX6_permit 14 = .ok (.istore_n 2, 1) := by decide +kernel
theorem dX6_permit_15 : decode cX6_permit 15 = .ok (.aload_n 0, 1) := by decide +kernel
theorem dX6_permit_16 : decode cX6_permit 16 = .ok (.getfield 10, 3) := by decide +kernel
theorem dX6_permit_19 : decode cX6_permit 19 = .ok (.iload_n 1, 1) := by decide +kernel
theorem dX6_permit_20 : decode cX6_permit 20 = .ok (.putfield 131, 3) := by decide +kernel
theorem dX6_permit_23 : decode cX6_permit 23 = .ok (.iload_n 2, 1) := by decide +kernel
theorem dX6_permit_24 : decode cX6_permit 24 = .ok (.ireturn, 1) := by decide +kernel
set_option maxRecDepth 20000 in
theorem ggX6_pass_X6_needWithin : GoodIn wsX6_pass wsX6_needWithin := goodIn_ca (goodIn_r _ [7, 8, 9] (by decide +kernel) (by decide +kernel)) (goodIn_sub (fun _ h => List.mem_cons_of_mem _ (List.mem_append_right _ h)) (by decide +kernel))
set_option maxRecDepth 20000 in
theorem gX6_pass_X6_needWithin : GoodIn wsX6_pass (va_wsS RX6 55 yX6_needWithin wsX6_needWithin) := goodIn_app (goodIn_of _ (by decide +kernel)) ggX6_pass_X6_needWithin
set_option maxRecDepth 20000 in
theorem ggX6_pass_X2_passMonth : GoodIn wsX6_pass wsX2_passMonth := goodIn_r _ [14, 15, 16, 17, 18, 19, 20, 21, 22, 13, 23, 24, 25, 26, 27, 28, 29, 30, 31, 32, 33, 34, 35, 36, 37, 38, 39, 40, 41, 42, 43, 44, 45, 46, 47, 48, 49, 50, 51, 52, 53, 54, 55, 56, 57, 58, 59, 60, 61, 62, 63, 64, 65, 66, 67, 68, 69, 70, 71, 72, 73, 74, 75, 76, 77, 78, 79, 80, 81, 82, 83, 84, 85, 86, 87, 88, 89, 90, 91, 92, 93, 94, 95, 96, 97, 98, 99, 100, 101, 102, 6, 103, 104, 105, 106, 107, 108, 109, 169, 170, 171, 172, 173, 174, 175, 176, 177, 178, 179, 180, 181, 182, 183, 184, 185, 186, 187, 188, 189] (by decide +kernel) (by decide +kernel)
set_option maxRecDepth 20000 in
theorem gX6_pass_X2_passMonth : GoodIn wsX6_pass (wsV RX6 142 RX2 yX2_passMonth wsX2_passMonth) := goodIn_app (goodIn_of _ (by decide +kernel)) ggX6_pass_X2_passMonth
set_option maxRecDepth 20000 in
theorem ggX6_pass_X6_countMonth : GoodIn wsX6_pass wsX6_countMonth := goodIn_r _ [113, 114, 1, 3, 115, 116, 117, 118, 119, 120, 121, 122, 123, 124, 125, 126, 158, 159, 160, 161, 162, 163, 164, 165, 166, 167, 168, 169, 170, 171, 172, 173, 174, 175, 176, 177, 178, 179, 180, 181, 182, 183, 184, 185, 190, 191, 192, 193, 194] (by decide +kernel) (by decide +kernel)
set_option maxRecDepth 20000 in
theorem gX6_pass_X6_countMonth : GoodIn wsX6_pass (wsV RX6 148 RX6 yX6_countMonth wsX6_countMonth) := goodIn_app (goodIn_of _ (by decide +kernel)) ggX6_pass_X6_countMonth
set_option maxRecDepth 20000 in
theorem ggX6_pass_X6_allocate : GoodIn wsX6_pass wsX6_allocate := goodIn_r _ [130, 1, 121, 122, 124, 131, 132, 133, 134, 135, 32, 136, 137, 34, 138, 139, 140, 6, 141, 158, 159, 160, 161, 162, 163, 164, 165, 166, 167, 168, 169, 170, 171, 172, 173, 174, 175, 176, 177, 178, 179, 180, 190, 191, 192, 193, 194, 181, 182, 183, 184, 185] (by decide +kernel) (by decide +kernel)
set_option maxRecDepth 20000 in
theorem gX6_pass_X6_allocate : GoodIn wsX6_pass (wsV RX6 154 RX6 yX6_allocate wsX6_allocate) := goodIn_app (goodIn_of _ (by decide +kernel)) ggX6_pass_X6_allocate
set_option maxRecDepth 20000 in
theorem ggX6_pass_X6_keepTests : GoodIn wsX6_pass wsX6_keepTests := goodIn_r _ [145, 1, 121, 124, 146, 122, 126, 131, 147, 148, 149, 150, 158, 159, 160, 161, 162, 163, 164, 165, 166, 167, 168, 169, 170, 171, 172, 173, 174, 175, 176, 177, 178, 179, 180, 190, 191, 192, 193, 194, 181, 182, 183, 184, 185] (by decide +kernel) (by decide +kernel)
set_option maxRecDepth 20000 in
theorem gX6_pass_X6_keepTests : GoodIn wsX6_pass (wsV RX6 157 RX6 yX6_keepTests wsX6_keepTests) := goodIn_app (goodIn_of _ (by decide +kernel)) ggX6_pass_X6_keepTests
set_option maxRecDepth 20000 in
theorem ggX6_pass_X6_entitle : GoodIn wsX6_pass wsX6_entitle := goodIn_r _ [154, 155, 156, 157, 158, 159, 160, 161, 162, 163, 164, 165, 166, 167, 168, 195, 196, 197, 198] (by decide +kernel) (by decide +kernel)
set_option maxRecDepth 20000 in
theorem gX6_pass_X6_entitle : GoodIn wsX6_pass (wsV RX6 160 RX6 yX6_entitle wsX6_entitle) := goodIn_app (goodIn_of _ (by decide +kernel)) ggX6_pass_X6_entitle
theorem dX6_pass_0 : decode cX6_pass 0 = .ok (.iload_n 1, 1) := by decide +kernel
theorem dX6_pass_1 : decode cX6_pass 1 = .ok (.iconst 1, 1) := by decide +kernel
theorem dX6_pass_2 : decode cX6_pass 2 = .ok (.bipush 24, 2) := by decide +kernel
theorem dX6_pass_4 : decode cX6_pass 4 = .ok (.invokestatic 55, 3) := by decide +kernel
theorem dX6_pass_7 : decode cX6_pass 7 = .ok (.iconst 0, 1) := by decide +kernel
theorem dX6_pass_8 : decode cX6_pass 8 = .ok (.istore_n 2, 1) := by decide +kernel
theorem dX6_pass_9 : decode cX6_pass 9 = .ok (.iconst 0, 1) := by decide +kernel
theorem dX6_pass_10 : decode cX6_pass 10 = .ok (.istore_n 3, 1) := by decide +kernel
theorem dX6_pass_11 : decode cX6_pass 11 = .ok (.iload_n 3, 1) := by decide +kernel
theorem dX6_pass_12 : decode cX6_pass 12 = .ok (.iload_n 1, 1) := by decide +kernel
theorem dX6_pass_13 : decode cX6_pass 13 = .ok (.if_icmp .ge 63, 3) := by decide +kernel
theorem dX6_pass_16 : decode cX6_pass 16 = .ok (.iload_n 2, 1) := by decide +kernel
theorem dX6_pass_17 : decode cX6_pass 17 = .ok (.aload_n 0, 1) := by decide +kernel
theorem dX6_pass_18 : decode cX6_pass 18 = .ok (.getfield 10, 3) := by decide +kernel
theorem dX6_pass_21 : decode cX6_pass 21 = .ok (.invokevirtual 142, 3) := by decide +kernel
theorem dX6_pass_24 : decode cX6_pass 24 = .ok (.iadd, 1) := by decide +kernel
theorem dX6_pass_25 : decode cX6_pass 25 = .ok (.istore_n 2, 1) := by decide +kernel
theorem dX6_pass_26 : decode cX6_pass 26 = .ok (.aload_n 0, 1) := by decide +kernel
theorem dX6_pass_27 : decode cX6_pass 27 = .ok (.dup, 1) := by decide +kernel
theorem dX6_pass_28 : decode cX6_pass 28 = .ok (.getfield 145, 3) := by decide +kernel
theorem dX6_pass_31 : decode cX6_pass 31 = .ok (.iconst 1, 1) := by decide +kernel
theorem dX6_pass_32 : decode cX6_pass 32 = .ok (.iadd, 1) := by decide +kernel
theorem dX6_pass_33 : decode cX6_pass 33 = .ok (.putfield 145, 3) := by decide +kernel
theorem dX6_pass_36 : decode cX6_pass 36 = .ok (.aload_n 0, 1) := by decide +kernel
theorem dX6_pass_37 : decode cX6_pass 37 = .ok (.invokevirtual 148, 3) := by decide +kernel
theorem dX6_pass_40 : decode cX6_pass 40 = .ok (.aload_n 0, 1) := by decide +kernel
theorem dX6_pass_41 : decode cX6_pass 41 = .ok (.aload_n 0, 1) := by decide +kernel
theorem dX6_pass_42 : decode cX6_pass 42 = .ok (.getfield 10, 3) := by decide +kernel
theorem dX6_pass_45 : decode cX6_pass 45 = .ok (.getfield 151, 3) := by decide +kernel
theorem dX6_pass_48 : decode cX6_pass 48 = .ok (.iconst 0, 1) := by decide +kernel
theorem dX6_pass_49 : decode cX6_pass 49 = .ok (.iaload, 1) := by decide +kernel
theorem dX6_pass_50 : decode cX6_pass 50 = .ok (.invokevirtual 154, 3) := by decide +kernel
theorem dX6_pass_53 : decode cX6_pass 53 = .ok (.aload_n 0, 1) := by decide +kernel
theorem dX6_pass_54 : decode cX6_pass 54 = .ok (.invokevirtual 157, 3) := by decide +kernel
theorem dX6_pass_57 : decode cX6_pass 57 = .ok (.aload_n 0, 1) := by decide +kernel
theorem dX6_pass_58 : decode cX6_pass 58 = .ok (.aload_n 0, 1) := by decide +kernel
theorem dX6_pass_59 : decode cX6_pass 59 = .ok (.getfield 10, 3) := by decide +kernel
theorem dX6_pass_62 : decode cX6_pass 62 = .ok (.getfield 151, 3) := by decide +kernel
theorem dX6_pass_65 : decode cX6_pass 65 = .ok (.iconst 0, 1) := by decide +kernel
theorem dX6_pass_66 : decode cX6_pass 66 = .ok (.iaload, 1) := by decide +kernel
theorem dX6_pass_67 : decode cX6_pass 67 = .ok (.invokevirtual 160, 3) := by decide +kernel
theorem dX6_pass_70 : decode cX6_pass 70 = .ok (.iinc 3 1, 3) := by decide +kernel
theorem dX6_pass_73 : decode cX6_pass 73 = .ok (.goto (-62), 3) := by decide +kernel
theorem dX6_pass_76 : decode cX6_pass 76 = .ok (.iload_n 2, 1) := by decide +kernel
theorem dX6_pass_77 : decode cX6_pass 77 = .ok (.ireturn, 1) := by decide +kernel
set_option maxRecDepth 20000 in
theorem ggX6_book_X6_reservesOf : GoodIn wsX6_book wsX6_reservesOf := goodIn_r _ [18, 19, 1, 20, 21, 2, 22, 23, 24, 25, 26, 27, 28, 29, 30, 31, 32, 33, 34, 35, 36, 37, 38, 39, 40, 41, 42, 43, 44, 45, 46, 47, 48, 49, 50, 51, 52, 53, 54, 55, 56, 57, 58, 59, 60, 61, 62, 63, 64, 65, 66, 67, 68, 69, 70, 71, 72, 73, 74, 75, 76, 77, 78, 79, 80, 81, 82, 83, 84, 85, 86, 87, 88, 89, 90, 91, 92, 93, 94, 95, 96, 97, 98, 99, 100, 101, 102, 103, 104, 105, 106, 107, 108, 109, 110, 111, 112, 113, 114, 115, 116, 117, 118, 119, 120, 121, 122, 123, 124, 125, 126, 127, 128, 129, 130, 131, 132, 133, 134, 135, 136, 137, 138, 139, 140, 141, 142, 143, 17, 144, 145, 146, 147, 148, 149, 150, 151, 152, 153, 154, 155, 156, 157, 158, 159, 160, 161, 162, 163, 164, 165, 166, 167, 168, 169, 170, 171, 180, 181, 182, 183, 184, 185, 186, 187, 188] (by decide +kernel) (by decide +kernel)
set_option maxRecDepth 20000 in
theorem gX6_book_X6_reservesOf : GoodIn wsX6_book (wsV RX6 179 RX6 yX6_reservesOf wsX6_reservesOf) := goodIn_app (goodIn_of _ (by decide +kernel)) ggX6_book_X6_reservesOf
theorem dX6_book_0 : decode cX6_book 0 = .ok (.aload_n 0, 1) := by decide +kernel
theorem dX6_book_1 : decode cX6_book 1 = .ok (.aload_n 0, 1) := by decide +kernel
theorem dX6_book_2 : decode cX6_book 2 = .ok (.getfield 10, 3) := by decide +kernel
theorem dX6_book_5 : decode cX6_book 5 = .ok (.getfield 87, 3) := by decide +kernel
theorem dX6_book_8 : decode cX6_book 8 = .ok (.invokevirtual 179, 3) := by decide +kernel
theorem dX6_book_11 : decode cX6_book 11 = .ok (.istore_n 1, 1) := by decide +kernel
theorem dX6_book_12 : decode cX6_book 12 = .ok (.iload_n 1, 1) := by decide +kernel
theorem dX6_book_13 : decode cX6_book 13 = .ok (.aload_n 0, 1) := by decide +kernel
theorem dX6_book_14 : decode cX6_book 14 = .ok (.aload_n 0, 1) := by decide +kernel
theorem dX6_book_15 : decode cX6_book 15 = .ok (.getfield 34, 3) := by decide +kernel
theorem dX6_book_18 : decode cX6_book 18 = .ok (.getfield 182, 3) := by decide +kernel
theorem dX6_book_21 : decode cX6_book 21 = .ok (.invokevirtual 179, 3) := by decide +kernel
theorem dX6_book_24 : decode cX6_book 24 = .ok (.isub, 1) := by decide +kernel
theorem dX6_book_25 : decode cX6_book 25 = .ok (.istore_n 2, 1) := by decide +kernel
theorem dX6_book_26 : decode cX6_book 26 = .ok (.aload_n 0, 1) := by decide +kernel
theorem dX6_book_27 : decode cX6_book 27 = .ok (.getfield 34, 3) := by decide +kernel
theorem dX6_book_30 : decode cX6_book 30 = .ok (.getfield 184, 3) := by decide +kernel
theorem dX6_book_33 : decode cX6_book 33 = .ok (.ifCond .ne 7, 3) := by decide +kernel
theorem dX6_book_36 : decode cX6_book 36 = .ok (.iconst 0, 1) := by decide +kernel
theorem dX6_book_37 : decode cX6_book 37 = .ok (.goto 17, 3) := by decide +kernel
theorem dX6_book_40 : decode cX6_book 40 = .ok (.aload_n 0, 1) := by decide +kernel
theorem dX6_book_41 : decode cX6_book 41 = .ok (.getfield 34, 3) := by decide +kernel
theorem dX6_book_44 : decode cX6_book 44 = .ok (.getfield 187, 3) := by decide +kernel
theorem dX6_book_47 : decode cX6_book 47 = .ok (.aload_n 0, 1) := by decide +kernel
theorem dX6_book_48 : decode cX6_book 48 = .ok (.getfield 38, 3) := by decide +kernel
theorem dX6_book_51 : decode cX6_book 51 = .ok (.iconst 0, 1) := by decide +kernel
theorem dX6_book_52 : decode cX6_book 52 = .ok (.iaload, 1) := by decide +kernel
theorem dX6_book_53 : decode cX6_book 53 = .ok (.isub, 1) := by decide +kernel
theorem dX6_book_54 : decode cX6_book 54 = .ok (.istore_n 3, 1) := by decide +kernel
theorem dX6_book_55 : decode cX6_book 55 = .ok (.aload_n 0, 1) := by decide +kernel
theorem dX6_book_56 : decode cX6_book 56 = .ok (.getfield 34, 3) := by decide +kernel
theorem dX6_book_59 : decode cX6_book 59 = .ok (.iload_n 1, 1) := by decide +kernel
theorem dX6_book_60 : decode cX6_book 60 = .ok (.aload_n 0, 1) := by decide +kernel
theorem dX6_book_61 : decode cX6_book 61 = .ok (.getfield 34, 3) := by decide +kernel
theorem dX6_book_64 : decode cX6_book 64 = .ok (.getfield 190, 3) := by decide +kernel
theorem dX6_book_67 : decode cX6_book 67 = .ok (.isub, 1) := by decide +kernel
theorem dX6_book_68 : decode cX6_book 68 = .ok (.iload_n 3, 1) := by decide +kernel
theorem dX6_book_69 : decode cX6_book 69 = .ok (.isub, 1) := by decide +kernel
theorem dX6_book_70 : decode cX6_book 70 = .ok (.iload_n 2, 1) := by decide +kernel
theorem dX6_book_71 : decode cX6_book 71 = .ok (.isub, 1) := by decide +kernel
theorem dX6_book_72 : decode cX6_book 72 = .ok (.putfield 193, 3) := by decide +kernel
theorem dX6_book_75 : decode cX6_book 75 = .ok (.aload_n 0, 1) := by decide +kernel
theorem dX6_book_76 : decode cX6_book 76 = .ok (.getfield 34, 3) := by decide +kernel
theorem dX6_book_79 : decode cX6_book 79 = .ok (.iload_n 1, 1) := by decide +kernel
theorem dX6_book_80 : decode cX6_book 80 = .ok (.putfield 190, 3) := by decide +kernel
theorem dX6_book_83 : decode cX6_book 83 = .ok (.aload_n 0, 1) := by decide +kernel
theorem dX6_book_84 : decode cX6_book 84 = .ok (.getfield 34, 3) := by decide +kernel
theorem dX6_book_87 : decode cX6_book 87 = .ok (.iload_n 3, 1) := by decide +kernel
theorem dX6_book_88 : decode cX6_book 88 = .ok (.putfield 196, 3) := by decide +kernel
theorem dX6_book_91 : decode cX6_book 91 = .ok (.aload_n 0, 1) := by decide +kernel
theorem dX6_book_92 : decode cX6_book 92 = .ok (.getfield 34, 3) := by decide +kernel
theorem dX6_book_95 : decode cX6_book 95 = .ok (.iload_n 2, 1) := by decide +kernel
theorem dX6_book_96 : decode cX6_book 96 = .ok (.putfield 199, 3) := by decide +kernel
theorem dX6_book_99 : decode cX6_book 99 = .ok (.aload_n 0, 1) := by decide +kernel
theorem dX6_book_100 : decode cX6_book 100 = .ok (.getfield 34, 3) := by decide +kernel
theorem dX6_book_103 : decode cX6_book 103 = .ok (.aload_n 0, 1) := by decide +kernel
theorem dX6_book_104 : decode cX6_book 104 = .ok (.getfield 145, 3) := by decide +kernel
theorem dX6_book_107 : decode cX6_book 107 = .ok (.putfield 202, 3) := by decide +kernel
theorem dX6_book_110 : decode cX6_book 110 = .ok (.aload_n 0, 1) := by decide +kernel
theorem dX6_book_111 : decode cX6_book 111 = .ok (.getfield 34, 3) := by decide +kernel
theorem dX6_book_114 : decode cX6_book 114 = .ok (.aload_n 0, 1) := by decide +kernel
theorem dX6_book_115 : decode cX6_book 115 = .ok (.getfield 10, 3) := by decide +kernel
theorem dX6_book_118 : decode cX6_book 118 = .ok (.getfield 87, 3) := by decide +kernel
theorem dX6_book_121 : decode cX6_book 121 = .ok (.putfield 182, 3) := by decide +kernel
theorem dX6_book_124 : decode cX6_book 124 = .ok (.aload_n 0, 1) := by decide +kernel
theorem dX6_book_125 : decode cX6_book 125 = .ok (.getfield 34, 3) := by decide +kernel
theorem dX6_book_128 : decode cX6_book 128 = .ok (.aload_n 0, 1) := by decide +kernel
theorem dX6_book_129 : decode cX6_book 129 = .ok (.getfield 38, 3) := by decide +kernel
theorem dX6_book_132 : decode cX6_book 132 = .ok (.iconst 0, 1) := by decide +kernel
theorem dX6_book_133 : decode cX6_book 133 = .ok (.iaload, 1) := by decide +kernel
theorem dX6_book_134 : decode cX6_book 134 = .ok (.putfield 187, 3) := by decide +kernel
theorem dX6_book_137 : decode cX6_book 137 = .ok (.aload_n 0, 1) := by decide +kernel
theorem dX6_book_138 : decode cX6_book 138 = .ok (.getfield 34, 3) := by decide +kernel
theorem dX6_book_141 : decode cX6_book 141 = .ok (.dup, 1) := by decide +kernel
theorem dX6_book_142 : decode cX6_book 142 = .ok (.getfield 184, 3) := by decide +kernel
theorem dX6_book_145 : decode cX6_book 145 = .ok (.iconst 1, 1) := by decide +kernel
theorem dX6_book_146 : decode cX6_book 146 = .ok (.iadd, 1) := by decide +kernel
theorem dX6_book_147 : decode cX6_book 147 = .ok (.putfield 184, 3) := by decide +kernel
theorem dX6_book_150 : decode cX6_book 150 = .ok (.iload_n 1, 1) := by decide +kernel
theorem dX6_book_151 : decode cX6_book 151 = .ok (.ireturn, 1) := by decide +kernel
set_option maxRecDepth 20000 in
theorem ggX6_ofCell_X6_needIndex : GoodIn wsX6_ofCell wsX6_needIndex := goodIn_ca (goodIn_r _ [8, 9, 10] (by decide +kernel) (by decide +kernel)) (goodIn_sub (fun _ h => List.mem_cons_of_mem _ (List.mem_append_left _ (List.mem_append_right _ h))) (by decide +kernel))
set_option maxRecDepth 20000 in
theorem gX6_ofCell_X6_needIndex : GoodIn wsX6_ofCell (va_wsS RX6 51 yX6_needIndex wsX6_needIndex) := goodIn_app (goodIn_of _ (by decide +kernel)) ggX6_ofCell_X6_needIndex
set_option maxRecDepth 20000 in
theorem ggX6_ofCell_X6_needWithin : GoodIn wsX6_ofCell wsX6_needWithin := goodIn_ca (goodIn_r _ [13, 14, 15] (by decide +kernel) (by decide +kernel)) (goodIn_sub (fun _ h => List.mem_cons_of_mem _ (List.mem_append_right _ h)) (by decide +kernel))
set_option maxRecDepth 20000 in
theorem gX6_ofCell_X6_needWithin : GoodIn wsX6_ofCell (va_wsS RX6 55 yX6_needWithin wsX6_needWithin) := goodIn_app (goodIn_of _ (by decide +kernel)) ggX6_ofCell_X6_needWithin
set_option maxRecDepth 20000 in
theorem ggX6_ofCell_X1_pressure : GoodIn wsX6_ofCell wsX1_pressure := goodIn_r _ [20, 21, 22, 23, 24, 19, 25, 26, 50, 51, 52, 53] (by decide +kernel) (by decide +kernel)
set_option maxRecDepth 20000 in
theorem gX6_ofCell_X1_pressure : GoodIn wsX6_ofCell (wsV RX6 71 RX1 yX1_pressure wsX1_pressure) := goodIn_app (goodIn_of _ (by decide +kernel)) ggX6_ofCell_X1_pressure
theorem dX6_ofCell_0 : decode cX6_ofCell 0 = .ok (.iload_n 1, 1) := by decide +kernel
theorem dX6_ofCell_1 : decode cX6_ofCell 1 = .ok (.bipush 16, 2) := by decide +kernel
theorem dX6_ofCell_3 : decode cX6_ofCell 3 = .ok (.invokestatic 51, 3) := by decide +kernel
theorem dX6_ofCell_6 : decode cX6_ofCell 6 = .ok (.iload_n 2, 1) := by decide +kernel
theorem dX6_ofCell_7 : decode cX6_ofCell 7 = .ok (.iconst 0, 1) := by decide +kernel
theorem dX6_ofCell_8 : decode cX6_ofCell 8 = .ok (.iconst 4, 1) := by decide +kernel
theorem dX6_ofCell_9 : decode cX6_ofCell 9 = .ok (.invokestatic 55, 3) := by decide +kernel
theorem dX6_ofCell_12 : decode cX6_ofCell 12 = .ok (.aload_n 0, 1) := by decide +kernel
theorem dX6_ofCell_13 : decode cX6_ofCell 13 = .ok (.getfield 10, 3) := by decide +kernel
theorem dX6_ofCell_16 : decode cX6_ofCell 16 = .ok (.getfield 59, 3) := by decide +kernel
theorem dX6_ofCell_19 : decode cX6_ofCell 19 = .ok (.iload_n 1, 1) := by decide +kernel
theorem dX6_ofCell_20 : decode cX6_ofCell 20 = .ok (.aaload, 1) := by decide +kernel
theorem dX6_ofCell_21 : decode cX6_ofCell 21 = .ok (.astore_n 3, 1) := by decide +kernel
theorem dX6_ofCell_22 : decode cX6_ofCell 22 = .ok (.iload_n 2, 1) := by decide +kernel
theorem dX6_ofCell_23 : decode cX6_ofCell 23 = .ok (.ifCond .ne 8, 3) := by decide +kernel
theorem dX6_ofCell_26 : decode cX6_ofCell 26 = .ok (.aload_n 3, 1) := by decide +kernel
theorem dX6_ofCell_27 : decode cX6_ofCell 27 = .ok (.getfield 63, 3) := by decide +kernel
theorem dX6_ofCell_30 : decode cX6_ofCell 30 = .ok (.ireturn, 1) := by decide +kernel
theorem dX6_ofCell_31 : decode cX6_ofCell 31 = .ok (.iload_n 2, 1) := by decide +kernel
theorem dX6_ofCell_32 : decode cX6_ofCell 32 = .ok (.iconst 4, 1) := by decide +kernel
theorem dX6_ofCell_33 : decode cX6_ofCell 33 = .ok (.if_icmp .ne 10, 3) := by decide +kernel
theorem dX6_ofCell_36 : decode cX6_ofCell 36 = .ok (.aload_n 3, 1) := by decide +kernel
theorem dX6_ofCell_37 : decode cX6_ofCell 37 = .ok (.invokevirtual 71, 3) := by decide +kernel
theorem dX6_ofCell_40 : decode cX6_ofCell 40 = .ok (.goto 11, 3) := by decide +kernel
theorem dX6_ofCell_43 : decode cX6_ofCell 43 = .ok (.aload_n 3, 1) := by decide +kernel
theorem dX6_ofCell_44 : decode cX6_ofCell 44 = .ok (.getfield 68, 3) := by decide +kernel
theorem dX6_ofCell_47 : decode cX6_ofCell 47 = .ok (.iload_n 2, 1) := by decide +kernel
theorem dX6_ofCell_48 : decode cX6_ofCell 48 = .ok (.iconst 1, 1) := by decide +kernel
theorem dX6_ofCell_49 : decode cX6_ofCell 49 = .ok (.isub, 1) := by decide +kernel
theorem dX6_ofCell_50 : decode cX6_ofCell 50 = .ok (.iaload, 1) := by decide +kernel
theorem dX6_ofCell_51 : decode cX6_ofCell 51 = .ok (.ireturn, 1) := by decide +kernel
set_option maxRecDepth 20000 in
theorem ggX6_ofWell_X6_needIndex : GoodIn wsX6_ofWell wsX6_needIndex := goodIn_ca (goodIn_r _ [18, 19, 20] (by decide +kernel) (by decide +kernel)) (goodIn_sub (fun _ h => List.mem_cons_of_mem _ (List.mem_append_left _ (List.mem_append_right _ h))) (by decide +kernel))
set_option maxRecDepth 20000 in
theorem gX6_ofWell_X6_needIndex : GoodIn wsX6_ofWell (va_wsS RX6 51 yX6_needIndex wsX6_needIndex) := goodIn_app (goodIn_of _ (by decide +kernel)) ggX6_ofWell_X6_needIndex
set_option maxRecDepth 20000 in
theorem ggX6_ofWell_X6_needWithin : GoodIn wsX6_ofWell wsX6_needWithin := goodIn_ca (goodIn_r _ [23, 24, 25] (by decide +kernel) (by decide +kernel)) (goodIn_sub (fun _ h => List.mem_cons_of_mem _ (List.mem_append_right _ h)) (by decide +kernel))
set_option maxRecDepth 20000 in
theorem gX6_ofWell_X6_needWithin : GoodIn wsX6_ofWell (va_wsS RX6 55 yX6_needWithin wsX6_needWithin) := goodIn_app (goodIn_of _ (by decide +kernel)) ggX6_ofWell_X6_needWithin
theorem dX6_ofWell_0 : decode cX6_ofWell 0 = .ok (.iload_n 1, 1) := by decide +kernel
theorem dX6_ofWell_1 : decode cX6_ofWell 1 = .ok (.aload_n 0, 1) := by decide +kernel
end
section
theorem dX6_ofWell_2 : decode cX6_ofWell 2 = .ok (.getfield 10, 3) := by decide +kernel
theorem dX6_ofWell_5 : decode cX6_ofWell 5 = .ok (.getfield 87, 3) := by decide +kernel
theorem dX6_ofWell_8 : decode cX6_ofWell 8 = .ok (.invokestatic 51, 3) := by decide +kernel
theorem dX6_ofWell_11 : decode cX6_ofWell 11 = .ok (.iload_n 2, 1) := by decide +kernel
theorem dX6_ofWell_12 : decode cX6_ofWell 12 = .ok (.iconst 0, 1) := by decide +kernel
theorem dX6_ofWell_13 : decode cX6_ofWell 13 = .ok (.bipush 13, 2) := by decide +kernel
theorem dX6_ofWell_15 : decode cX6_ofWell 15 = .ok (.invokestatic 55, 3) := by decide +kernel
theorem dX6_ofWell_18 : decode cX6_ofWell 18 = .ok (.aload_n 0, 1) := by decide +kernel
theorem dX6_ofWell_19 : decode cX6_ofWell 19 = .ok (.getfield 10, 3) := by decide +kernel
theorem dX6_ofWell_22 : decode cX6_ofWell 22 = .ok (.getfield 97, 3) := by decide +kernel
theorem dX6_ofWell_25 : decode cX6_ofWell 25 = .ok (.iload_n 1, 1) := by decide +kernel
theorem dX6_ofWell_26 : decode cX6_ofWell 26 = .ok (.aaload, 1) := by decide +kernel
theorem dX6_ofWell_27 : decode cX6_ofWell 27 = .ok (.astore_n 3, 1) := by decide +kernel
theorem dX6_ofWell_28 : decode cX6_ofWell 28 = .ok (.aload_n 0, 1) := by decide +kernel
theorem dX6_ofWell_29 : decode cX6_ofWell 29 = .ok (.getfield 21, 3) := by decide +kernel
theorem dX6_ofWell_32 : decode cX6_ofWell 32 = .ok (.iload_n 1, 1) := by decide +kernel
theorem dX6_ofWell_33 : decode cX6_ofWell 33 = .ok (.aaload, 1) := by decide +kernel
theorem dX6_ofWell_34 : decode cX6_ofWell 34 = .ok (.astore 4, 2) := by decide +kernel
theorem dX6_ofWell_36 : decode cX6_ofWell 36 = .ok (.iload_n 2, 1) := by decide +kernel
theorem dX6_ofWell_37 : decode cX6_ofWell 37 = .ok (.tableswitch 133 0 12 #[67, 72, 77, 82, 87, 101, 101, 101, 111, 111, 111, 121, 127], 67) := by decide +kernel
theorem dX6_ofWell_104 : decode cX6_ofWell 104 = .ok (.aload_n 3, 1) := by decide +kernel
theorem dX6_ofWell_105 : decode cX6_ofWell 105 = .ok (.getfield 101, 3) := by decide +kernel
theorem dX6_ofWell_108 : decode cX6_ofWell 108 = .ok (.ireturn, 1) := by decide +kernel
theorem dX6_ofWell_109 : decode cX6_ofWell 109 = .ok (.aload_n 3, 1) := by decide +kernel
theorem dX6_ofWell_110 : decode cX6_ofWell 110 = .ok (.getfield 106, 3) := by decide +kernel
theorem dX6_ofWell_113 : decode cX6_ofWell 113 = .ok (.ireturn, 1) := by decide +kernel
theorem dX6_ofWell_114 : decode cX6_ofWell 114 = .ok (.aload_n 3, 1) := by decide +kernel
theorem dX6_ofWell_115 : decode cX6_ofWell 115 = .ok (.getfield 113, 3) := by decide +kernel
theorem dX6_ofWell_118 : decode cX6_ofWell 118 = .ok (.ireturn, 1) := by decide +kernel
theorem dX6_ofWell_119 : decode cX6_ofWell 119 = .ok (.aload_n 3, 1) := by decide +kernel
theorem dX6_ofWell_120 : decode cX6_ofWell 120 = .ok (.getfield 116, 3) := by decide +kernel
theorem dX6_ofWell_123 : decode cX6_ofWell 123 = .ok (.ireturn, 1) := by decide +kernel
theorem dX6_ofWell_124 : decode cX6_ofWell 124 = .ok (.aload 4, 2) := by decide +kernel
theorem dX6_ofWell_126 : decode cX6_ofWell 126 = .ok (.getfield 125, 3) := by decide +kernel
theorem dX6_ofWell_129 : decode cX6_ofWell 129 = .ok (.ifCond .eq 7, 3) := by decide +kernel
theorem dX6_ofWell_132 : decode cX6_ofWell 132 = .ok (.iconst 1, 1) := by decide +kernel
theorem dX6_ofWell_133 : decode cX6_ofWell 133 = .ok (.goto 4, 3) := by decide +kernel
theorem dX6_ofWell_136 : decode cX6_ofWell 136 = .ok (.iconst 0, 1) := by decide +kernel
theorem dX6_ofWell_137 : decode cX6_ofWell 137 = .ok (.ireturn, 1) := by decide +kernel
theorem dX6_ofWell_138 : decode cX6_ofWell 138 = .ok (.aload 4, 2) := by decide +kernel
theorem dX6_ofWell_140 : decode cX6_ofWell 140 = .ok (.getfield 205, 3) := by decide +kernel
theorem dX6_ofWell_143 : decode cX6_ofWell 143 = .ok (.iload_n 2, 1) := by decide +kernel
theorem dX6_ofWell_144 : decode cX6_ofWell 144 = .ok (.iconst 5, 1) := by decide +kernel
theorem dX6_ofWell_145 : decode cX6_ofWell 145 = .ok (.isub, 1) := by decide +kernel
theorem dX6_ofWell_146 : decode cX6_ofWell 146 = .ok (.iaload, 1) := by decide +kernel
theorem dX6_ofWell_147 : decode cX6_ofWell 147 = .ok (.ireturn, 1) := by decide +kernel
theorem dX6_ofWell_148 : decode cX6_ofWell 148 = .ok (.aload_n 3, 1) := by decide +kernel
theorem dX6_ofWell_149 : decode cX6_ofWell 149 = .ok (.getfield 208, 3) := by decide +kernel
theorem dX6_ofWell_152 : decode cX6_ofWell 152 = .ok (.iload_n 2, 1) := by decide +kernel
theorem dX6_ofWell_153 : decode cX6_ofWell 153 = .ok (.bipush 8, 2) := by decide +kernel
theorem dX6_ofWell_155 : decode cX6_ofWell 155 = .ok (.isub, 1) := by decide +kernel
theorem dX6_ofWell_156 : decode cX6_ofWell 156 = .ok (.iaload, 1) := by decide +kernel
theorem dX6_ofWell_157 : decode cX6_ofWell 157 = .ok (.ireturn, 1) := by decide +kernel
theorem dX6_ofWell_158 : decode cX6_ofWell 158 = .ok (.aload 4, 2) := by decide +kernel
theorem dX6_ofWell_160 : decode cX6_ofWell 160 = .ok (.getfield 211, 3) := by decide +kernel
theorem dX6_ofWell_163 : decode cX6_ofWell 163 = .ok (.ireturn, 1) := by decide +kernel
theorem dX6_ofWell_164 : decode cX6_ofWell 164 = .ok (.aload 4, 2) := by decide +kernel
theorem dX6_ofWell_166 : decode cX6_ofWell 166 = .ok (.getfield 214, 3) := by decide +kernel
theorem dX6_ofWell_169 : decode cX6_ofWell 169 = .ok (.ireturn, 1) := by decide +kernel
theorem dX6_ofWell_170 : decode cX6_ofWell 170 = .ok (.aload 4, 2) := by decide +kernel
theorem dX6_ofWell_172 : decode cX6_ofWell 172 = .ok (.getfield 121, 3) := by decide +kernel
theorem dX6_ofWell_175 : decode cX6_ofWell 175 = .ok (.ifCond .eq 7, 3) := by decide +kernel
theorem dX6_ofWell_178 : decode cX6_ofWell 178 = .ok (.iconst 1, 1) := by decide +kernel
theorem dX6_ofWell_179 : decode cX6_ofWell 179 = .ok (.goto 4, 3) := by decide +kernel
theorem dX6_ofWell_182 : decode cX6_ofWell 182 = .ok (.iconst 0, 1) := by decide +kernel
theorem dX6_ofWell_183 : decode cX6_ofWell 183 = .ok (.ireturn, 1) := by decide +kernel
set_option maxRecDepth 20000 in
theorem ggX6_ofPartner_X6_needIndex : GoodIn wsX6_ofPartner wsX6_needIndex := goodIn_ca (goodIn_r _ [9, 10, 11] (by decide +kernel) (by decide +kernel)) (goodIn_sub (fun _ h => List.mem_cons_of_mem _ (List.mem_append_left _ (List.mem_append_right _ h))) (by decide +kernel))
set_option maxRecDepth 20000 in
theorem gX6_ofPartner_X6_needIndex : GoodIn wsX6_ofPartner (va_wsS RX6 51 yX6_needIndex wsX6_needIndex) := goodIn_app (goodIn_of _ (by decide +kernel)) ggX6_ofPartner_X6_needIndex
set_option maxRecDepth 20000 in
theorem ggX6_ofPartner_X6_needWithin : GoodIn wsX6_ofPartner wsX6_needWithin := goodIn_ca (goodIn_r _ [14, 15, 16] (by decide +kernel) (by decide +kernel)) (goodIn_sub (fun _ h => List.mem_cons_of_mem _ (List.mem_append_right _ h)) (by decide +kernel))
set_option maxRecDepth 20000 in
theorem gX6_ofPartner_X6_needWithin : GoodIn wsX6_ofPartner (va_wsS RX6 55 yX6_needWithin wsX6_needWithin) := goodIn_app (goodIn_of _ (by decide +kernel)) ggX6_ofPartner_X6_needWithin
theorem dX6_ofPartner_0 : decode cX6_ofPartner 0 = .ok (.iload_n 1, 1) := by decide +kernel
theorem dX6_ofPartner_1 : decode cX6_ofPartner 1 = .ok (.iconst 3, 1) := by decide +kernel
theorem dX6_ofPartner_2 : decode cX6_ofPartner 2 = .ok (.invokestatic 51, 3) := by decide +kernel
theorem dX6_ofPartner_5 : decode cX6_ofPartner 5 = .ok (.iload_n 2, 1) := by decide +kernel
theorem dX6_ofPartner_6 : decode cX6_ofPartner 6 = .ok (.iconst 0, 1) := by decide +kernel
theorem dX6_ofPartner_7 : decode cX6_ofPartner 7 = .ok (.iconst 3, 1) := by decide +kernel
theorem dX6_ofPartner_8 : decode cX6_ofPartner 8 = .ok (.invokestatic 55, 3) := by decide +kernel
theorem dX6_ofPartner_11 : decode cX6_ofPartner 11 = .ok (.aload_n 0, 1) := by decide +kernel
theorem dX6_ofPartner_12 : decode cX6_ofPartner 12 = .ok (.getfield 27, 3) := by decide +kernel
theorem dX6_ofPartner_15 : decode cX6_ofPartner 15 = .ok (.iload_n 1, 1) := by decide +kernel
theorem dX6_ofPartner_16 : decode cX6_ofPartner 16 = .ok (.aaload, 1) := by decide +kernel
theorem dX6_ofPartner_17 : decode cX6_ofPartner 17 = .ok (.astore_n 3, 1) := by decide +kernel
theorem dX6_ofPartner_18 : decode cX6_ofPartner 18 = .ok (.iload_n 2, 1) := by decide +kernel
theorem dX6_ofPartner_19 : decode cX6_ofPartner 19 = .ok (.tableswitch 40 0 2 #[25, 30, 35], 25) := by decide +kernel
theorem dX6_ofPartner_44 : decode cX6_ofPartner 44 = .ok (.aload_n 3, 1) := by decide +kernel
theorem dX6_ofPartner_45 : decode cX6_ofPartner 45 = .ok (.getfield 48, 3) := by decide +kernel
theorem dX6_ofPartner_48 : decode cX6_ofPartner 48 = .ok (.ireturn, 1) := by decide +kernel
theorem dX6_ofPartner_49 : decode cX6_ofPartner 49 = .ok (.aload_n 3, 1) := by decide +kernel
theorem dX6_ofPartner_50 : decode cX6_ofPartner 50 = .ok (.getfield 217, 3) := by decide +kernel
theorem dX6_ofPartner_53 : decode cX6_ofPartner 53 = .ok (.ireturn, 1) := by decide +kernel
theorem dX6_ofPartner_54 : decode cX6_ofPartner 54 = .ok (.aload_n 3, 1) := by decide +kernel
theorem dX6_ofPartner_55 : decode cX6_ofPartner 55 = .ok (.getfield 173, 3) := by decide +kernel
theorem dX6_ofPartner_58 : decode cX6_ofPartner 58 = .ok (.ireturn, 1) := by decide +kernel
theorem dX6_ofPartner_59 : decode cX6_ofPartner 59 = .ok (.aload_n 3, 1) := by decide +kernel
theorem dX6_ofPartner_60 : decode cX6_ofPartner 60 = .ok (.getfield 176, 3) := by decide +kernel
theorem dX6_ofPartner_63 : decode cX6_ofPartner 63 = .ok (.ireturn, 1) := by decide +kernel
set_option maxRecDepth 20000 in
theorem ggX6_booked_X6_needWithin : GoodIn wsX6_booked wsX6_needWithin := goodIn_ca (goodIn_r _ [10, 11, 12] (by decide +kernel) (by decide +kernel)) (goodIn_sub (fun _ h => List.mem_cons_of_mem _ (List.mem_append_right _ h)) (by decide +kernel))
set_option maxRecDepth 20000 in
theorem gX6_booked_X6_needWithin : GoodIn wsX6_booked (va_wsS RX6 55 yX6_needWithin wsX6_needWithin) := goodIn_app (goodIn_of _ (by decide +kernel)) ggX6_booked_X6_needWithin
theorem dX6_booked_0 : decode cX6_booked 0 = .ok (.iload_n 1, 1) := by decide +kernel
theorem dX6_booked_1 : decode cX6_booked 1 = .ok (.iconst 0, 1) := by decide +kernel
theorem dX6_booked_2 : decode cX6_booked 2 = .ok (.iconst 4, 1) := by decide +kernel
theorem dX6_booked_3 : decode cX6_booked 3 = .ok (.invokestatic 55, 3) := by decide +kernel
theorem dX6_booked_6 : decode cX6_booked 6 = .ok (.iload_n 1, 1) := by decide +kernel
theorem dX6_booked_7 : decode cX6_booked 7 = .ok (.tableswitch 61 0 3 #[29, 37, 45, 53], 29) := by decide +kernel
theorem dX6_booked_36 : decode cX6_booked 36 = .ok (.aload_n 0, 1) := by decide +kernel
theorem dX6_booked_37 : decode cX6_booked 37 = .ok (.getfield 34, 3) := by decide +kernel
theorem dX6_booked_40 : decode cX6_booked 40 = .ok (.getfield 190, 3) := by decide +kernel
theorem dX6_booked_43 : decode cX6_booked 43 = .ok (.ireturn, 1) := by decide +kernel
theorem dX6_booked_44 : decode cX6_booked 44 = .ok (.aload_n 0, 1) := by decide +kernel
theorem dX6_booked_45 : decode cX6_booked 45 = .ok (.getfield 34, 3) := by decide +kernel
theorem dX6_booked_48 : decode cX6_booked 48 = .ok (.getfield 196, 3) := by decide +kernel
theorem dX6_booked_51 : decode cX6_booked 51 = .ok (.ireturn, 1) := by decide +kernel
theorem dX6_booked_52 : decode cX6_booked 52 = .ok (.aload_n 0, 1) := by decide +kernel
theorem dX6_booked_53 : decode cX6_booked 53 = .ok (.getfield 34, 3) := by decide +kernel
theorem dX6_booked_56 : decode cX6_booked 56 = .ok (.getfield 199, 3) := by decide +kernel
theorem dX6_booked_59 : decode cX6_booked 59 = .ok (.ireturn, 1) := by decide +kernel
theorem dX6_booked_60 : decode cX6_booked 60 = .ok (.aload_n 0, 1) := by decide +kernel
theorem dX6_booked_61 : decode cX6_booked 61 = .ok (.getfield 34, 3) := by decide +kernel
theorem dX6_booked_64 : decode cX6_booked 64 = .ok (.getfield 193, 3) := by decide +kernel
theorem dX6_booked_67 : decode cX6_booked 67 = .ok (.ireturn, 1) := by decide +kernel
theorem dX6_booked_68 : decode cX6_booked 68 = .ok (.aload_n 0, 1) := by decide +kernel
theorem dX6_booked_69 : decode cX6_booked 69 = .ok (.getfield 34, 3) := by decide +kernel
theorem dX6_booked_72 : decode cX6_booked 72 = .ok (.getfield 202, 3) := by decide +kernel
theorem dX6_booked_75 : decode cX6_booked 75 = .ok (.ireturn, 1) := by decide +kernel
set_option maxRecDepth 20000 in
theorem ggX6_many_X6_needWithin : GoodIn wsX6_many wsX6_needWithin := goodIn_ca (goodIn_r _ [14, 15, 16] (by decide +kernel) (by decide +kernel)) (goodIn_sub (fun _ h => List.mem_cons_of_mem _ (List.mem_append_right _ h)) (by decide +kernel))
set_option maxRecDepth 20000 in
theorem gX6_many_X6_needWithin : GoodIn wsX6_many (va_wsS RX6 55 yX6_needWithin wsX6_needWithin) := goodIn_app (goodIn_of _ (by decide +kernel)) ggX6_many_X6_needWithin
set_option maxRecDepth 20000 in
theorem ggX6_many_X2_inAllCells : GoodIn wsX6_many wsX2_inAllCells := goodIn_r _ [21, 22, 23, 46, 47, 48, 49, 50, 51, 52, 53, 54, 55, 56, 57, 66, 67, 68, 69] (by decide +kernel) (by decide +kernel)
set_option maxRecDepth 20000 in
theorem gX6_many_X2_inAllCells : GoodIn wsX6_many (wsV RX6 220 RX2 yX2_inAllCells wsX2_inAllCells) := goodIn_app (goodIn_of _ (by decide +kernel)) ggX6_many_X2_inAllCells
set_option maxRecDepth 20000 in
theorem ggX6_many_X2_faults : GoodIn wsX6_many wsX2_faults := goodIn_r _ [27, 22, 28, 29, 30, 31, 32, 33, 34, 46, 47, 48, 49, 50, 51, 52, 53, 54, 55, 56, 57, 66, 67, 68, 69] (by decide +kernel) (by decide +kernel)
set_option maxRecDepth 20000 in
theorem gX6_many_X2_faults : GoodIn wsX6_many (wsV RX6 232 RX2 yX2_faults wsX2_faults) := goodIn_app (goodIn_of _ (by decide +kernel)) ggX6_many_X2_faults
theorem dX6_many_0 : decode cX6_many 0 = .ok (.iload_n 1, 1) := by decide +kernel
theorem dX6_many_1 : decode cX6_many 1 = .ok (.iconst 0, 1) := by decide +kernel
theorem dX6_many_2 : decode cX6_many 2 = .ok (.bipush 14, 2) := by decide +kernel
theorem dX6_many_4 : decode cX6_many 4 = .ok (.invokestatic 55, 3) := by decide +kernel
theorem dX6_many_7 : decode cX6_many 7 = .ok (.iload_n 1, 1) := by decide +kernel
theorem dX6_many_8 : decode cX6_many 8 = .ok (.tableswitch 142 0 13 #[72, 77, 85, 85, 85, 96, 96, 96, 105, 113, 118, 123, 128, 134], 72) := by decide +kernel
theorem dX6_many_80 : decode cX6_many 80 = .ok (.aload_n 0, 1) := by decide +kernel
theorem dX6_many_81 : decode cX6_many 81 = .ok (.getfield 145, 3) := by decide +kernel
theorem dX6_many_84 : decode cX6_many 84 = .ok (.ireturn, 1) := by decide +kernel
theorem dX6_many_85 : decode cX6_many 85 = .ok (.aload_n 0, 1) := by decide +kernel
theorem dX6_many_86 : decode cX6_many 86 = .ok (.getfield 10, 3) := by decide +kernel
theorem dX6_many_89 : decode cX6_many 89 = .ok (.getfield 87, 3) := by decide +kernel
theorem dX6_many_92 : decode cX6_many 92 = .ok (.ireturn, 1) := by decide +kernel
theorem dX6_many_93 : decode cX6_many 93 = .ok (.aload_n 0, 1) := by decide +kernel
theorem dX6_many_94 : decode cX6_many 94 = .ok (.getfield 10, 3) := by decide +kernel
theorem dX6_many_97 : decode cX6_many 97 = .ok (.iload_n 1, 1) := by decide +kernel
theorem dX6_many_98 : decode cX6_many 98 = .ok (.iconst 2, 1) := by decide +kernel
theorem dX6_many_99 : decode cX6_many 99 = .ok (.isub, 1) := by decide +kernel
theorem dX6_many_100 : decode cX6_many 100 = .ok (.invokevirtual 220, 3) := by decide +kernel
theorem dX6_many_103 : decode cX6_many 103 = .ok (.ireturn, 1) := by decide +kernel
theorem dX6_many_104 : decode cX6_many 104 = .ok (.aload_n 0, 1) := by decide +kernel
theorem dX6_many_105 : decode cX6_many 105 = .ok (.getfield 38, 3) := by decide +kernel
theorem dX6_many_108 : decode cX6_many 108 = .ok (.iload_n 1, 1) := by decide +kernel
theorem dX6_many_109 : decode cX6_many 109 = .ok (.iconst 5, 1) := by decide +kernel
theorem dX6_many_110 : decode cX6_many 110 = .ok (.isub, 1) := by decide +kernel
theorem dX6_many_111 : decode cX6_many 111 = .ok (.iaload, 1) := by decide +kernel
theorem dX6_many_112 : decode cX6_many 112 = .ok (.ireturn, 1) := by decide +kernel
theorem dX6_many_113 : decode cX6_many 113 = .ok (.aload_n 0, 1) := by decide +kernel
theorem dX6_many_114 : decode cX6_many 114 = .ok (.getfield 10, 3) := by decide +kernel
theorem dX6_many_117 : decode cX6_many 117 = .ok (.getfield 134, 3) := by decide +kernel
theorem dX6_many_120 : decode cX6_many 120 = .ok (.ireturn, 1) := by decide +kernel
theorem dX6_many_121 : decode cX6_many 121 = .ok (.aload_n 0, 1) := by decide +kernel
theorem dX6_many_122 : decode cX6_many 122 = .ok (.getfield 223, 3) := by decide +kernel
theorem dX6_many_125 : decode cX6_many 125 = .ok (.ireturn, 1) := by decide +kernel
theorem dX6_many_126 : decode cX6_many 126 = .ok (.aload_n 0, 1) := by decide +kernel
theorem dX6_many_127 : decode cX6_many 127 = .ok (.getfield 226, 3) := by decide +kernel
theorem dX6_many_130 : decode cX6_many 130 = .ok (.ireturn, 1) := by decide +kernel
theorem dX6_many_131 : decode cX6_many 131 = .ok (.aload_n 0, 1) := by decide +kernel
theorem dX6_many_132 : decode cX6_many 132 = .ok (.getfield 229, 3) := by decide +kernel
theorem dX6_many_135 : decode cX6_many 135 = .ok (.ireturn, 1) := by decide +kernel
theorem dX6_many_136 : decode cX6_many 136 = .ok (.aload_n 0, 1) := by decide +kernel
theorem dX6_many_137 : decode cX6_many 137 = .ok (.getfield 223, 3) := by decide +kernel
theorem dX6_many_140 : decode cX6_many 140 = .ok (.ineg, 1) := by decide +kernel
theorem dX6_many_141 : decode cX6_many 141 = .ok (.ireturn, 1) := by decide +kernel
theorem dX6_many_142 : decode cX6_many 142 = .ok (.aload_n 0, 1) := by decide +kernel
theorem dX6_many_143 : decode cX6_many 143 = .ok (.getfield 10, 3) := by decide +kernel
theorem dX6_many_146 : decode cX6_many 146 = .ok (.invokevirtual 232, 3) := by decide +kernel
theorem dX6_many_149 : decode cX6_many 149 = .ok (.ireturn, 1) := by decide +kernel
theorem dX6_many_150 : decode cX6_many 150 = .ok (.aload_n 0, 1) := by decide +kernel
theorem dX6_many_151 : decode cX6_many 151 = .ok (.getfield 34, 3) := by decide +kernel
theorem dX6_many_154 : decode cX6_many 154 = .ok (.getfield 184, 3) := by decide +kernel
theorem dX6_many_157 : decode cX6_many 157 = .ok (.ireturn, 1) := by decide +kernel
set_option maxRecDepth 20000 in
theorem ggX6_wouldGive_X6_needWithin : GoodIn wsX6_wouldGive wsX6_needWithin := goodIn_ca (goodIn_r _ [6, 7, 8] (by decide +kernel) (by decide +kernel)) (goodIn_sub (fun _ h => List.mem_cons_of_mem _ (List.mem_append_right _ h)) (by decide +kernel))
set_option maxRecDepth 20000 in
theorem gX6_wouldGive_X6_needWithin : GoodIn wsX6_wouldGive (va_wsS RX6 55 yX6_needWithin wsX6_needWithin) := goodIn_app (goodIn_of _ (by decide +kernel)) ggX6_wouldGive_X6_needWithin
set_option maxRecDepth 20000 in
theorem ggX6_wouldGive_X2_take : GoodIn wsX6_wouldGive wsX2_take := goodIn_r _ [13, 14, 15, 16, 17, 18, 19, 20, 21, 22, 23, 24, 25, 26, 27, 28, 29, 30, 31, 32, 33, 34, 35, 36, 37, 38, 39, 40, 41, 42, 43, 145, 146, 147, 148, 149, 150, 151, 152, 153, 154, 155, 156, 157, 158, 159, 160, 161, 162, 163, 164, 165] (by decide +kernel) (by decide +kernel)
set_option maxRecDepth 20000 in
theorem gX6_wouldGive_X2_take : GoodIn wsX6_wouldGive (wsV RX6 237 RX2 yX2_take wsX2_take) := goodIn_app (goodIn_of _ (by decide +kernel)) ggX6_wouldGive_X2_take
set_option maxRecDepth 20000 in
theorem ggX6_wouldGive_X2_passMonths : GoodIn wsX6_wouldGive wsX2_passMonths := goodIn_r _ [47, 48, 49, 50, 12, 51, 16, 15, 52, 53, 54, 55, 56, 57, 58, 59, 60, 22, 61, 62, 63, 64, 65, 38, 66, 67, 68, 69, 70, 71, 14, 72, 73, 74, 75, 76, 77, 78, 79, 80, 24, 81, 82, 83, 28, 84, 30, 85, 86, 87, 88, 31, 89, 90, 91, 92, 17, 23, 93, 94, 95, 96, 97, 98, 99, 100, 101, 102, 103, 104, 105, 106, 107, 108, 109, 110, 111, 112, 113, 114, 115, 116, 117, 118, 119, 120, 121, 122, 123, 124, 125, 126, 127, 128, 5, 129, 130, 131, 132, 133, 33, 34, 145, 146, 147, 148, 149, 150, 151, 152, 153, 154, 155, 156, 161, 162, 163, 164, 165, 157, 158, 159, 160] (by decide +kernel) (by decide +kernel)
set_option maxRecDepth 20000 in
theorem gX6_wouldGive_X2_passMonths : GoodIn wsX6_wouldGive (wsV RX6 241 RX2 yX2_passMonths wsX2_passMonths) := goodIn_app (goodIn_of _ (by decide +kernel)) ggX6_wouldGive_X2_passMonths
theorem dX6_wouldGive_0 : decode cX6_wouldGive 0 = .ok (.iload_n 1, 1) := by decide +kernel
theorem dX6_wouldGive_1 : decode cX6_wouldGive 1 = .ok (.iconst 1, 1) := by decide +kernel
theorem dX6_wouldGive_2 : decode cX6_wouldGive 2 = .ok (.bipush 12, 2) := by decide +kernel
theorem dX6_wouldGive_4 : decode cX6_wouldGive 4 = .ok (.invokestatic 55, 3) := by decide +kernel
theorem dX6_wouldGive_7 : decode cX6_wouldGive 7 = .ok (.aload_n 0, 1) := by decide +kernel
theorem dX6_wouldGive_8 : decode cX6_wouldGive 8 = .ok (.getfield 16, 3) := by decide +kernel
theorem dX6_wouldGive_11 : decode cX6_wouldGive 11 = .ok (.aload_n 0, 1) := by decide +kernel
theorem dX6_wouldGive_12 : decode cX6_wouldGive 12 = .ok (.getfield 10, 3) := by decide +kernel
theorem dX6_wouldGive_15 : decode cX6_wouldGive 15 = .ok (.invokevirtual 237, 3) := by decide +kernel
theorem dX6_wouldGive_18 : decode cX6_wouldGive 18 = .ok (.aload_n 0, 1) := by decide +kernel
theorem dX6_wouldGive_19 : decode cX6_wouldGive 19 = .ok (.getfield 16, 3) := by decide +kernel
theorem dX6_wouldGive_22 : decode cX6_wouldGive 22 = .ok (.iload_n 1, 1) := by decide +kernel
theorem dX6_wouldGive_23 : decode cX6_wouldGive 23 = .ok (.invokevirtual 241, 3) := by decide +kernel
theorem dX6_wouldGive_26 : decode cX6_wouldGive 26 = .ok (.ireturn, 1) := by decide +kernel
set_option maxRecDepth 20000 in
theorem ggX6_bestChoke_X6_needIndex : GoodIn wsX6_bestChoke wsX6_needIndex := goodIn_ca (goodIn_r _ [9, 10, 11] (by decide +kernel) (by decide +kernel)) (goodIn_sub (fun _ h => List.mem_cons_of_mem _ (List.mem_append_left _ (List.mem_append_left _ (List.mem_append_right _ h)))) (by decide +kernel))
set_option maxRecDepth 20000 in
theorem gX6_bestChoke_X6_needIndex : GoodIn wsX6_bestChoke (va_wsS RX6 51 yX6_needIndex wsX6_needIndex) := goodIn_app (goodIn_of _ (by decide +kernel)) ggX6_bestChoke_X6_needIndex
set_option maxRecDepth 20000 in
theorem ggX6_bestChoke_X6_needWithin : GoodIn wsX6_bestChoke wsX6_needWithin := goodIn_ca (goodIn_r _ [14, 15, 16] (by decide +kernel) (by decide +kernel)) (goodIn_sub (fun _ h => List.mem_cons_of_mem _ (List.mem_append_left _ (List.mem_append_right _ h))) (by decide +kernel))
set_option maxRecDepth 20000 in
theorem gX6_bestChoke_X6_needWithin : GoodIn wsX6_bestChoke (va_wsS RX6 55 yX6_needWithin wsX6_needWithin) := goodIn_app (goodIn_of _ (by decide +kernel)) ggX6_bestChoke_X6_needWithin
set_option maxRecDepth 20000 in
theorem ggX6_bestChoke_X6_needOpen : GoodIn wsX6_bestChoke wsX6_needOpen := goodIn_ca (goodIn_r _ [20, 21, 22, 23, 24, 150, 151, 152, 153, 154, 155, 156, 157, 158, 159, 160, 178, 179, 180, 181, 182] (by decide +kernel) (by decide +kernel)) (goodIn_sub (fun _ h => List.mem_cons_of_mem _ (List.mem_append_right _ h)) (by decide +kernel))
set_option maxRecDepth 20000 in
theorem gX6_bestChoke_X6_needOpen : GoodIn wsX6_bestChoke (wsV RX6 109 RX6 yX6_needOpen wsX6_needOpen) := goodIn_app (goodIn_of _ (by decide +kernel)) ggX6_bestChoke_X6_needOpen
set_option maxRecDepth 20000 in
theorem ggX6_bestChoke_X2_take : GoodIn wsX6_bestChoke wsX2_take := goodIn_r _ [29, 30, 31, 32, 33, 34, 35, 36, 37, 38, 39, 40, 41, 42, 43, 44, 45, 46, 47, 48, 49, 50, 51, 52, 53, 54, 55, 56, 57, 58, 59, 161, 162, 163, 164, 165, 166, 167, 168, 169, 170, 171, 172, 183, 184, 185, 186, 173, 174, 175, 176, 177] (by decide +kernel) (by decide +kernel)
set_option maxRecDepth 20000 in
theorem gX6_bestChoke_X2_take : GoodIn wsX6_bestChoke (wsV RX6 237 RX2 yX2_take wsX2_take) := goodIn_app (goodIn_of _ (by decide +kernel)) ggX6_bestChoke_X2_take
set_option maxRecDepth 20000 in
theorem ggX6_bestChoke_X2_passMonths : GoodIn wsX6_bestChoke wsX2_passMonths := goodIn_r _ [63, 64, 65, 66, 28, 67, 32, 31, 68, 69, 70, 71, 72, 73, 74, 75, 76, 38, 77, 78, 79, 80, 81, 54, 82, 83, 84, 85, 86, 87, 30, 88, 89, 90, 91, 92, 93, 94, 95, 96, 40, 97, 98, 99, 44, 100, 46, 101, 102, 103, 104, 47, 105, 106, 107, 108, 33, 39, 109, 110, 111, 112, 113, 114, 115, 116, 117, 118, 119, 120, 121, 122, 123, 124, 125, 126, 127, 128, 129, 130, 131, 132, 133, 134, 135, 136, 137, 138, 139, 140, 141, 142, 143, 144, 8, 145, 146, 147, 148, 149, 49, 50, 161, 162, 163, 164, 165, 166, 167, 168, 169, 170, 171, 172, 173, 174, 175, 176, 177, 183, 184, 185, 186] (by decide +kernel) (by decide +kernel)
set_option maxRecDepth 20000 in
theorem gX6_bestChoke_X2_passMonths : GoodIn wsX6_bestChoke (wsV RX6 241 RX2 yX2_passMonths wsX2_passMonths) := goodIn_app (goodIn_of _ (by decide +kernel)) ggX6_bestChoke_X2_passMonths
theorem dX6_bestChoke_0 : decode cX6_bestChoke 0 = .ok (.iload_n 1, 1) := by decide +kernel
theorem dX6_bestChoke_1 : decode cX6_bestChoke 1 = .ok (.aload_n 0, 1) := by decide +kernel
theorem dX6_bestChoke_2 : decode cX6_bestChoke 2 = .ok (.getfield 10, 3) := by decide +kernel
theorem dX6_bestChoke_5 : decode cX6_bestChoke 5 = .ok (.getfield 87, 3) := by decide +kernel
theorem dX6_bestChoke_8 : decode cX6_bestChoke 8 = .ok (.invokestatic 51, 3) := by decide +kernel
theorem dX6_bestChoke_11 : decode cX6_bestChoke 11 = .ok (.iload_n 2, 1) := by decide +kernel
theorem dX6_bestChoke_12 : decode cX6_bestChoke 12 = .ok (.iconst 1, 1) := by decide +kernel
theorem dX6_bestChoke_13 : decode cX6_bestChoke 13 = .ok (.bipush 6, 2) := by decide +kernel
theorem dX6_bestChoke_15 : decode cX6_bestChoke 15 = .ok (.invokestatic 55, 3) := by decide +kernel
theorem dX6_bestChoke_18 : decode cX6_bestChoke 18 = .ok (.aload_n 0, 1) := by decide +kernel
theorem dX6_bestChoke_19 : decode cX6_bestChoke 19 = .ok (.iload_n 1, 1) := by decide +kernel
theorem dX6_bestChoke_20 : decode cX6_bestChoke 20 = .ok (.invokevirtual 109, 3) := by decide +kernel
theorem dX6_bestChoke_23 : decode cX6_bestChoke 23 = .ok (.iconst 0, 1) := by decide +kernel
theorem dX6_bestChoke_24 : decode cX6_bestChoke 24 = .ok (.istore_n 3, 1) := by decide +kernel
theorem dX6_bestChoke_25 : decode cX6_bestChoke 25 = .ok (.iconst (-1), 1) := by decide +kernel
theorem dX6_bestChoke_26 : decode cX6_bestChoke 26 = .ok (.istore 4, 2) := by decide +kernel
theorem dX6_bestChoke_28 : decode cX6_bestChoke 28 = .ok (.iconst 0, 1) := by decide +kernel
theorem dX6_bestChoke_29 : decode cX6_bestChoke 29 = .ok (.istore 5, 2) := by decide +kernel
theorem dX6_bestChoke_31 : decode cX6_bestChoke 31 = .ok (.iload 5, 2) := by decide +kernel
theorem dX6_bestChoke_33 : decode cX6_bestChoke 33 = .ok (.bipush 9, 2) := by decide +kernel
theorem dX6_bestChoke_35 : decode cX6_bestChoke 35 = .ok (.if_icmp .gt 58, 3) := by decide +kernel
theorem dX6_bestChoke_38 : decode cX6_bestChoke 38 = .ok (.aload_n 0, 1) := by decide +kernel
theorem dX6_bestChoke_39 : decode cX6_bestChoke 39 = .ok (.getfield 16, 3) := by decide +kernel
theorem dX6_bestChoke_42 : decode cX6_bestChoke 42 = .ok (.aload_n 0, 1) := by decide +kernel
theorem dX6_bestChoke_43 : decode cX6_bestChoke 43 = .ok (.getfield 10, 3) := by decide +kernel
theorem dX6_bestChoke_46 : decode cX6_bestChoke 46 = .ok (.invokevirtual 237, 3) := by decide +kernel
theorem dX6_bestChoke_49 : decode cX6_bestChoke 49 = .ok (.aload_n 0, 1) := by decide +kernel
theorem dX6_bestChoke_50 : decode cX6_bestChoke 50 = .ok (.getfield 16, 3) := by decide +kernel
theorem dX6_bestChoke_53 : decode cX6_bestChoke 53 = .ok (.getfield 97, 3) := by decide +kernel
theorem dX6_bestChoke_56 : decode cX6_bestChoke 56 = .ok (.iload_n 1, 1) := by decide +kernel
theorem dX6_bestChoke_57 : decode cX6_bestChoke 57 = .ok (.aaload, 1) := by decide +kernel
theorem dX6_bestChoke_58 : decode cX6_bestChoke 58 = .ok (.iload 5, 2) := by decide +kernel
theorem dX6_bestChoke_60 : decode cX6_bestChoke 60 = .ok (.putfield 113, 3) := by decide +kernel
theorem dX6_bestChoke_63 : decode cX6_bestChoke 63 = .ok (.aload_n 0, 1) := by decide +kernel
theorem dX6_bestChoke_64 : decode cX6_bestChoke 64 = .ok (.getfield 16, 3) := by decide +kernel
theorem dX6_bestChoke_67 : decode cX6_bestChoke 67 = .ok (.iload_n 2, 1) := by decide +kernel
theorem dX6_bestChoke_68 : decode cX6_bestChoke 68 = .ok (.invokevirtual 241, 3) := by decide +kernel
theorem dX6_bestChoke_71 : decode cX6_bestChoke 71 = .ok (.istore 6, 2) := by decide +kernel
theorem dX6_bestChoke_73 : decode cX6_bestChoke 73 = .ok (.iload 6, 2) := by decide +kernel
theorem dX6_bestChoke_75 : decode cX6_bestChoke 75 = .ok (.iload 4, 2) := by decide +kernel
theorem dX6_bestChoke_77 : decode cX6_bestChoke 77 = .ok (.if_icmp .le 10, 3) := by decide +kernel
theorem dX6_bestChoke_80 : decode cX6_bestChoke 80 = .ok (.iload 6, 2) := by decide +kernel
theorem dX6_bestChoke_82 : decode cX6_bestChoke 82 = .ok (.istore 4, 2) := by decide +kernel
theorem dX6_bestChoke_84 : decode cX6_bestChoke 84 = .ok (.iload 5, 2) := by decide +kernel
theorem dX6_bestChoke_86 : decode cX6_bestChoke 86 = .ok (.istore_n 3, 1) := by decide +kernel
theorem dX6_bestChoke_87 : decode cX6_bestChoke 87 = .ok (.iinc 5 1, 3) := by decide +kernel
theorem dX6_bestChoke_90 : decode cX6_bestChoke 90 = .ok (.goto (-59), 3) := by decide +kernel
theorem dX6_bestChoke_93 : decode cX6_bestChoke 93 = .ok (.iload_n 3, 1) := by decide +kernel
theorem dX6_bestChoke_94 : decode cX6_bestChoke 94 = .ok (.ireturn, 1) := by decide +kernel
set_option maxRecDepth 20000 in
theorem ggX6_keptBack_X6_needNeighbour : GoodIn wsX6_keptBack wsX6_needNeighbour := goodIn_ca (goodIn_r _ [7, 8, 9, 10, 11, 6, 12, 13, 14, 15] (by decide +kernel) (by decide +kernel)) (goodIn_sub (fun _ h => List.mem_cons_of_mem _ (List.mem_append_left _ (List.mem_append_right _ h))) (by decide +kernel))
set_option maxRecDepth 20000 in
theorem gX6_keptBack_X6_needNeighbour : GoodIn wsX6_keptBack (va_wsS RX6 75 yX6_needNeighbour wsX6_needNeighbour) := goodIn_app (goodIn_of _ (by decide +kernel)) ggX6_keptBack_X6_needNeighbour
set_option maxRecDepth 20000 in
theorem ggX6_keptBack_X6_needWithin : GoodIn wsX6_keptBack wsX6_needWithin := goodIn_ca (goodIn_r _ [18, 19, 20] (by decide +kernel) (by decide +kernel)) (goodIn_sub (fun _ h => List.mem_cons_of_mem _ (List.mem_append_right _ h)) (by decide +kernel))
set_option maxRecDepth 20000 in
theorem gX6_keptBack_X6_needWithin : GoodIn wsX6_keptBack (va_wsS RX6 55 yX6_needWithin wsX6_needWithin) := goodIn_app (goodIn_of _ (by decide +kernel)) ggX6_keptBack_X6_needWithin
set_option maxRecDepth 20000 in
theorem ggX6_keptBack_X1_isShut : GoodIn wsX6_keptBack wsX1_isShut := goodIn_r _ [25, 26, 27, 172, 173, 174, 175] (by decide +kernel) (by decide +kernel)
set_option maxRecDepth 20000 in
theorem gX6_keptBack_X1_isShut : GoodIn wsX6_keptBack (wsV RX6 79 RX1 yX1_isShut wsX1_isShut) := goodIn_app (goodIn_of _ (by decide +kernel)) ggX6_keptBack_X1_isShut
set_option maxRecDepth 20000 in
theorem ggX6_keptBack_X2_take : GoodIn wsX6_keptBack wsX2_take := goodIn_r _ [32, 33, 34, 35, 36, 37, 38, 39, 40, 41, 42, 43, 44, 45, 46, 24, 47, 48, 49, 50, 26, 27, 51, 52, 53, 54, 55, 56, 57, 58, 59, 160, 161, 162, 163, 164, 165, 166, 167, 168, 169, 170, 171, 172, 173, 174, 175, 176, 177, 178, 179, 180] (by decide +kernel) (by decide +kernel)
set_option maxRecDepth 20000 in
theorem gX6_keptBack_X2_take : GoodIn wsX6_keptBack (wsV RX6 237 RX2 yX2_take wsX2_take) := goodIn_app (goodIn_of _ (by decide +kernel)) ggX6_keptBack_X2_take
set_option maxRecDepth 20000 in
theorem ggX6_keptBack_X2_passMonths : GoodIn wsX6_keptBack wsX2_passMonths := goodIn_r _ [63, 64, 65, 66, 31, 67, 35, 34, 68, 69, 70, 71, 72, 73, 74, 75, 76, 41, 77, 78, 79, 80, 81, 54, 82, 83, 84, 85, 86, 87, 33, 88, 89, 90, 91, 92, 93, 94, 95, 96, 43, 97, 98, 99, 24, 100, 48, 101, 102, 103, 104, 49, 105, 106, 107, 108, 36, 42, 109, 110, 111, 112, 113, 114, 115, 116, 117, 118, 119, 120, 121, 122, 123, 124, 125, 126, 127, 128, 129, 130, 131, 132, 133, 134, 135, 136, 137, 138, 139, 140, 141, 142, 143, 14, 6, 15, 144, 22, 23, 25, 26, 27, 160, 161, 162, 163, 164, 165, 166, 167, 168, 169, 170, 171, 176, 177, 178, 179, 180, 172, 173, 174, 175] (by decide +kernel) (by decide +kernel)
set_option maxRecDepth 20000 in
theorem gX6_keptBack_X2_passMonths : GoodIn wsX6_keptBack (wsV RX6 241 RX2 yX2_passMonths wsX2_passMonths) := goodIn_app (goodIn_of _ (by decide +kernel)) ggX6_keptBack_X2_passMonths
set_option maxRecDepth 20000 in
theorem ggX6_keptBack_X1_shut : GoodIn wsX6_keptBack wsX1_shut := goodIn_r _ [148, 26, 27, 172, 173, 174, 175] (by decide +kernel) (by decide +kernel)
set_option maxRecDepth 20000 in
theorem gX6_keptBack_X1_shut : GoodIn wsX6_keptBack (wsV RX6 83 RX1 yX1_shut wsX1_shut) := goodIn_app (goodIn_of _ (by decide +kernel)) ggX6_keptBack_X1_shut
theorem dX6_keptBack_0 : decode cX6_keptBack 0 = .ok (.iload_n 1, 1) := by decide +kernel
theorem dX6_keptBack_1 : decode cX6_keptBack 1 = .ok (.iload_n 2, 1) := by decide +kernel
theorem dX6_keptBack_2 : decode cX6_keptBack 2 = .ok (.invokestatic 75, 3) := by decide +kernel
theorem dX6_keptBack_5 : decode cX6_keptBack 5 = .ok (.iload_n 3, 1) := by decide +kernel
theorem dX6_keptBack_6 : decode cX6_keptBack 6 = .ok (.iconst 1, 1) := by decide +kernel
theorem dX6_keptBack_7 : decode cX6_keptBack 7 = .ok (.bipush 6, 2) := by decide +kernel
theorem dX6_keptBack_9 : decode cX6_keptBack 9 = .ok (.invokestatic 55, 3) := by decide +kernel
theorem dX6_keptBack_12 : decode cX6_keptBack 12 = .ok (.aload_n 0, 1) := by decide +kernel
theorem dX6_keptBack_13 : decode cX6_keptBack 13 = .ok (.getfield 10, 3) := by decide +kernel
theorem dX6_keptBack_16 : decode cX6_keptBack 16 = .ok (.getfield 59, 3) := by decide +kernel
theorem dX6_keptBack_19 : decode cX6_keptBack 19 = .ok (.iload_n 1, 1) := by decide +kernel
theorem dX6_keptBack_20 : decode cX6_keptBack 20 = .ok (.aaload, 1) := by decide +kernel
theorem dX6_keptBack_21 : decode cX6_keptBack 21 = .ok (.iload_n 2, 1) := by decide +kernel
theorem dX6_keptBack_22 : decode cX6_keptBack 22 = .ok (.invokevirtual 79, 3) := by decide +kernel
theorem dX6_keptBack_25 : decode cX6_keptBack 25 = .ok (.ifCond .ne 5, 3) := by decide +kernel
theorem dX6_keptBack_28 : decode cX6_keptBack 28 = .ok (.iconst 0, 1) := by decide +kernel
theorem dX6_keptBack_29 : decode cX6_keptBack 29 = .ok (.ireturn, 1) := by decide +kernel
theorem dX6_keptBack_30 : decode cX6_keptBack 30 = .ok (.aload_n 0, 1) := by decide +kernel
theorem dX6_keptBack_31 : decode cX6_keptBack 31 = .ok (.getfield 16, 3) := by decide +kernel
theorem dX6_keptBack_34 : decode cX6_keptBack 34 = .ok (.aload_n 0, 1) := by decide +kernel
theorem dX6_keptBack_35 : decode cX6_keptBack 35 = .ok (.getfield 10, 3) := by decide +kernel
theorem dX6_keptBack_38 : decode cX6_keptBack 38 = .ok (.invokevirtual 237, 3) := by decide +kernel
theorem dX6_keptBack_41 : decode cX6_keptBack 41 = .ok (.aload_n 0, 1) := by decide +kernel
theorem dX6_keptBack_42 : decode cX6_keptBack 42 = .ok (.getfield 16, 3) := by decide +kernel
theorem dX6_keptBack_45 : decode cX6_keptBack 45 = .ok (.iload_n 3, 1) := by decide +kernel
theorem dX6_keptBack_46 : decode cX6_keptBack 46 = .ok (.invokevirtual 241, 3) := by decide +kernel
theorem dX6_keptBack_49 : decode cX6_keptBack 49 = .ok (.istore 4, 2) := by decide +kernel
theorem dX6_keptBack_51 : decode cX6_keptBack 51 = .ok (.aload_n 0, 1) := by decide +kernel
theorem dX6_keptBack_52 : decode cX6_keptBack 52 = .ok (.getfield 16, 3) := by decide +kernel
theorem dX6_keptBack_55 : decode cX6_keptBack 55 = .ok (.aload_n 0, 1) := by decide +kernel
theorem dX6_keptBack_56 : decode cX6_keptBack 56 = .ok (.getfield 10, 3) := by decide +kernel
theorem dX6_keptBack_59 : decode cX6_keptBack 59 = .ok (.invokevirtual 237, 3) := by decide +kernel
theorem dX6_keptBack_62 : decode cX6_keptBack 62 = .ok (.aload_n 0, 1) := by decide +kernel
theorem dX6_keptBack_63 : decode cX6_keptBack 63 = .ok (.getfield 16, 3) := by decide +kernel
theorem dX6_keptBack_66 : decode cX6_keptBack 66 = .ok (.getfield 59, 3) := by decide +kernel
theorem dX6_keptBack_69 : decode cX6_keptBack 69 = .ok (.iload_n 1, 1) := by decide +kernel
theorem dX6_keptBack_70 : decode cX6_keptBack 70 = .ok (.aaload, 1) := by decide +kernel
theorem dX6_keptBack_71 : decode cX6_keptBack 71 = .ok (.iload_n 2, 1) := by decide +kernel
theorem dX6_keptBack_72 : decode cX6_keptBack 72 = .ok (.iconst 0, 1) := by decide +kernel
theorem dX6_keptBack_73 : decode cX6_keptBack 73 = .ok (.invokevirtual 83, 3) := by decide +kernel
theorem dX6_keptBack_76 : decode cX6_keptBack 76 = .ok (.aload_n 0, 1) := by decide +kernel
theorem dX6_keptBack_77 : decode cX6_keptBack 77 = .ok (.getfield 16, 3) := by decide +kernel
theorem dX6_keptBack_80 : decode cX6_keptBack 80 = .ok (.iload_n 3, 1) := by decide +kernel
theorem dX6_keptBack_81 : decode cX6_keptBack 81 = .ok (.invokevirtual 241, 3) := by decide +kernel
theorem dX6_keptBack_84 : decode cX6_keptBack 84 = .ok (.iload 4, 2) := by decide +kernel
theorem dX6_keptBack_86 : decode cX6_keptBack 86 = .ok (.isub, 1) := by decide +kernel
theorem dX6_keptBack_87 : decode cX6_keptBack 87 = .ok (.ireturn, 1) := by decide +kernel
set_option maxRecDepth 20000 in
theorem ggX6_mayLift_X6_needIndex : GoodIn wsX6_mayLift wsX6_needIndex := goodIn_ca (goodIn_r _ [13, 14, 15] (by decide +kernel) (by decide +kernel)) (goodIn_sub (fun _ h => List.mem_cons_of_mem _ (List.mem_append_right _ h)) (by decide +kernel))
set_option maxRecDepth 20000 in
theorem gX6_mayLift_X6_needIndex : GoodIn wsX6_mayLift (va_wsS RX6 51 yX6_needIndex wsX6_needIndex) := goodIn_app (goodIn_of _ (by decide +kernel)) ggX6_mayLift_X6_needIndex
theorem dX6_mayLift_0 : decode cX6_mayLift 0 = .ok (.iload_n 1, 1) := by decide +kernel
theorem dX6_mayLift_1 : decode cX6_mayLift 1 = .ok (.iconst 3, 1) := by decide +kernel
theorem dX6_mayLift_2 : decode cX6_mayLift 2 = .ok (.invokestatic 51, 3) := by decide +kernel
theorem dX6_mayLift_5 : decode cX6_mayLift 5 = .ok (.aload_n 0, 1) := by decide +kernel
theorem dX6_mayLift_6 : decode cX6_mayLift 6 = .ok (.getfield 27, 3) := by decide +kernel
theorem dX6_mayLift_9 : decode cX6_mayLift 9 = .ok (.iload_n 1, 1) := by decide +kernel
theorem dX6_mayLift_10 : decode cX6_mayLift 10 = .ok (.aaload, 1) := by decide +kernel
theorem dX6_mayLift_11 : decode cX6_mayLift 11 = .ok (.astore_n 2, 1) := by decide +kernel
theorem dX6_mayLift_12 : decode cX6_mayLift 12 = .ok (.aload_n 0, 1) := by decide +kernel
theorem dX6_mayLift_13 : decode cX6_mayLift 13 = .ok (.getfield 10, 3) := by decide +kernel
theorem dX6_mayLift_16 : decode cX6_mayLift 16 = .ok (.getfield 134, 3) := by decide +kernel
theorem dX6_mayLift_19 : decode cX6_mayLift 19 = .ok (.aload_n 2, 1) := by decide +kernel
theorem dX6_mayLift_20 : decode cX6_mayLift 20 = .ok (.getfield 217, 3) := by decide +kernel
theorem dX6_mayLift_23 : decode cX6_mayLift 23 = .ok (.aload_n 2, 1) := by decide +kernel
theorem dX6_mayLift_24 : decode cX6_mayLift 24 = .ok (.getfield 173, 3) := by decide +kernel
theorem dX6_mayLift_27 : decode cX6_mayLift 27 = .ok (.isub, 1) := by decide +kernel
theorem dX6_mayLift_28 : decode cX6_mayLift 28 = .ok (.bipush 20, 2) := by decide +kernel
theorem dX6_mayLift_30 : decode cX6_mayLift 30 = .ok (.iadd, 1) := by decide +kernel
theorem dX6_mayLift_31 : decode cX6_mayLift 31 = .ok (.invokestatic 167, 3) := by decide +kernel
theorem dX6_mayLift_34 : decode cX6_mayLift 34 = .ok (.ireturn, 1) := by decide +kernel
set_option maxRecDepth 20000 in
theorem ggX6_digest_X6_many : GoodIn wsX6_digest wsX6_many := goodIn_ca (goodIn_r _ [11, 12, 3, 4, 13, 14, 15, 16, 17, 18, 19, 20, 21, 10, 22, 23, 24, 25, 26, 27, 28, 29, 30, 31, 32, 33, 34, 35, 36, 37, 38, 39, 40, 41, 42, 236, 237, 238, 239, 240, 241, 242, 243, 244, 245, 246, 247, 248, 249, 250, 251, 252, 253, 254, 255, 256, 257, 258, 264, 265, 266, 267, 268, 269, 270, 271, 272, 273, 274, 275] (by decide +kernel) (by decide +kernel)) (goodIn_sub (fun _ h => List.mem_cons_of_mem _ (List.mem_append_left _ (List.mem_append_left _ (List.mem_append_right _ h)))) (by decide +kernel))
set_option maxRecDepth 20000 in
theorem gX6_digest_X6_many : GoodIn wsX6_digest (wsV RX6 248 RX6 yX6_many wsX6_many) := goodIn_app (goodIn_of _ (by decide +kernel)) ggX6_digest_X6_many
set_option maxRecDepth 20000 in
theorem ggX6_digest_X6_ofCell : GoodIn wsX6_digest wsX6_ofCell := goodIn_ca (goodIn_ca (goodIn_r _ [46, 3, 47, 48, 49, 50, 51, 10, 52, 53, 54, 20, 21, 22, 23, 24, 55, 56, 57, 39, 58, 59, 60, 61, 62, 63, 64, 236, 237, 238, 239, 240, 241, 242, 243, 244, 245, 246, 247, 248, 249, 250, 251, 252, 253, 254, 255, 256, 257, 258, 272, 273, 274, 275] (by decide +kernel) (by decide +kernel)) (goodIn_sub (fun _ h => List.mem_cons_of_mem _ (List.mem_append_left _ (List.mem_append_right _ h))) (by decide +kernel))) (goodIn_sub (fun _ h => List.mem_cons_of_mem _ (List.mem_append_left _ (List.mem_append_left _ (List.mem_append_right _ h)))) (by decide +kernel))
set_option maxRecDepth 20000 in
theorem gX6_digest_X6_ofCell : GoodIn wsX6_digest (wsV RX6 251 RX6 yX6_ofCell wsX6_ofCell) := goodIn_app (goodIn_of _ (by decide +kernel)) ggX6_digest_X6_ofCell
set_option maxRecDepth 20000 in
theorem ggX6_digest_X6_ofWell : GoodIn wsX6_digest wsX6_ofWell := goodIn_ca (goodIn_ca (goodIn_r _ [68, 3, 4, 69, 5, 70, 71, 72, 73, 6, 74, 75, 76, 77, 78, 50, 51, 10, 52, 53, 54, 20, 21, 22, 23, 24, 236, 237, 238, 239, 240, 241, 242, 243, 244, 245, 246, 247, 248, 249, 250, 251, 252, 253, 254, 255, 256, 257, 258, 276, 277, 278, 279, 280, 259, 260, 261, 262, 263] (by decide +kernel) (by decide +kernel)) (goodIn_sub (fun _ h => List.mem_cons_of_mem _ (List.mem_append_left _ (List.mem_append_right _ h))) (by decide +kernel))) (goodIn_sub (fun _ h => List.mem_cons_of_mem _ (List.mem_append_left _ (List.mem_append_left _ (List.mem_append_right _ h)))) (by decide +kernel))
set_option maxRecDepth 20000 in
theorem gX6_digest_X6_ofWell : GoodIn wsX6_digest (wsV RX6 254 RX6 yX6_ofWell wsX6_ofWell) := goodIn_app (goodIn_of _ (by decide +kernel)) ggX6_digest_X6_ofWell
set_option maxRecDepth 20000 in
theorem ggX6_digest_X6_bestChoke : GoodIn wsX6_digest wsX6_bestChoke := goodIn_ca (goodIn_ca (goodIn_ca (goodIn_r _ [82, 3, 4, 83, 69, 72, 50, 51, 10, 52, 53, 54, 20, 21, 22, 23, 24, 84, 85, 86, 87, 88, 89, 5, 6, 90, 91, 92, 28, 93, 30, 94, 95, 96, 97, 98, 99, 100, 101, 102, 103, 104, 105, 106, 39, 107, 59, 64, 108, 41, 42, 109, 110, 111, 112, 113, 114, 115, 116, 117, 118, 119, 120, 121, 122, 123, 124, 125, 126, 127, 128, 129, 130, 131, 132, 133, 134, 135, 136, 137, 138, 139, 140, 141, 142, 143, 144, 145, 146, 147, 148, 149, 150, 151, 152, 153, 154, 155, 56, 57, 58, 60, 61, 62, 63, 156, 157, 158, 159, 160, 161, 162, 163, 164, 165, 166, 167, 168, 169, 170, 171, 172, 173, 174, 175, 176, 177, 178, 179, 180, 181, 182, 183, 184, 185, 31, 186, 187, 188, 189, 190, 191, 192, 193, 194, 195, 36, 37, 38, 40, 236, 237, 238, 239, 240, 241, 242, 243, 244, 245, 246, 247, 248, 249, 250, 251, 252, 253, 254, 255, 256, 257, 258, 276, 277, 278, 279, 280, 259, 260, 261, 262, 263, 272, 273, 274, 275] (by decide +kernel) (by decide +kernel)) (goodIn_sub (fun _ h => List.mem_cons_of_mem _ (List.mem_append_left _ (List.mem_append_right _ h))) (by decide +kernel))) (goodIn_sub (fun _ h => List.mem_cons_of_mem _ (List.mem_append_left _ (List.mem_append_left _ (List.mem_append_right _ h)))) (by decide +kernel))) (goodIn_sub (fun _ h => List.mem_cons_of_mem _ (List.mem_append_right _ h)) (by decide +kernel))
set_option maxRecDepth 20000 in
theorem gX6_digest_X6_bestChoke : GoodIn wsX6_digest (wsV RX6 257 RX6 yX6_bestChoke wsX6_bestChoke) := goodIn_app (goodIn_of _ (by decide +kernel)) ggX6_digest_X6_bestChoke
set_option maxRecDepth 20000 in
theorem ggX6_digest_X6_ofPartner : GoodIn wsX6_digest wsX6_ofPartner := goodIn_ca (goodIn_ca (goodIn_r _ [199, 200, 201, 202, 203, 204, 50, 51, 10, 52, 53, 54, 20, 21, 22, 23, 24, 236, 237, 238, 239, 240, 241, 242, 243, 244, 245, 246, 281, 282, 283, 284] (by decide +kernel) (by decide +kernel)) (goodIn_sub (fun _ h => List.mem_cons_of_mem _ (List.mem_append_left _ (List.mem_append_right _ h))) (by decide +kernel))) (goodIn_sub (fun _ h => List.mem_cons_of_mem _ (List.mem_append_left _ (List.mem_append_left _ (List.mem_append_right _ h)))) (by decide +kernel))
set_option maxRecDepth 20000 in
theorem gX6_digest_X6_ofPartner : GoodIn wsX6_digest (wsV RX6 260 RX6 yX6_ofPartner wsX6_ofPartner) := goodIn_app (goodIn_of _ (by decide +kernel)) ggX6_digest_X6_ofPartner
set_option maxRecDepth 20000 in
theorem ggX6_digest_X6_mayLift : GoodIn wsX6_digest wsX6_mayLift := goodIn_ca (goodIn_r _ [208, 200, 3, 14, 202, 203, 209, 152, 149, 153, 50, 51, 10, 52, 53, 54, 236, 237, 238, 239, 240, 241, 242, 243, 244, 245, 246, 247, 248, 249, 250, 251, 252, 253, 254, 255, 256, 257, 258, 281, 282, 283, 284] (by decide +kernel) (by decide +kernel)) (goodIn_sub (fun _ h => List.mem_cons_of_mem _ (List.mem_append_left _ (List.mem_append_right _ h))) (by decide +kernel))
set_option maxRecDepth 20000 in
theorem gX6_digest_X6_mayLift : GoodIn wsX6_digest (wsV RX6 163 RX6 yX6_mayLift wsX6_mayLift) := goodIn_app (goodIn_of _ (by decide +kernel)) ggX6_digest_X6_mayLift
set_option maxRecDepth 20000 in
theorem ggX6_digest_X6_booked : GoodIn wsX6_digest wsX6_booked := goodIn_ca (goodIn_r _ [213, 18, 214, 215, 216, 217, 218, 20, 21, 10, 22, 23, 24, 236, 237, 238, 239, 240, 241, 242, 243, 244, 245, 246, 264, 265, 266, 267, 268, 269, 270, 271] (by decide +kernel) (by decide +kernel)) (goodIn_sub (fun _ h => List.mem_cons_of_mem _ (List.mem_append_left _ (List.mem_append_left _ (List.mem_append_right _ h)))) (by decide +kernel))
set_option maxRecDepth 20000 in
theorem gX6_digest_X6_booked : GoodIn wsX6_digest (wsV RX6 263 RX6 yX6_booked wsX6_booked) := goodIn_app (goodIn_of _ (by decide +kernel)) ggX6_digest_X6_booked
set_option maxRecDepth 20000 in
theorem ggX6_digest_X6_wouldGive : GoodIn wsX6_digest wsX6_wouldGive := goodIn_ca (goodIn_r _ [222, 83, 3, 20, 21, 10, 22, 23, 24, 90, 91, 92, 28, 93, 30, 94, 95, 96, 97, 98, 99, 100, 101, 102, 103, 104, 105, 106, 39, 107, 59, 64, 108, 41, 42, 109, 110, 111, 112, 113, 114, 115, 116, 117, 118, 119, 120, 121, 122, 123, 124, 125, 126, 127, 128, 129, 130, 131, 132, 133, 134, 135, 136, 137, 138, 139, 140, 141, 142, 143, 144, 145, 146, 147, 148, 149, 150, 151, 152, 153, 154, 155, 56, 57, 58, 60, 61, 62, 63, 156, 157, 158, 159, 160, 161, 162, 163, 164, 165, 166, 167, 168, 169, 170, 171, 172, 173, 174, 175, 176, 177, 178, 179, 180, 181, 182, 183, 184, 185, 31, 186, 187, 188, 189, 190, 191, 192, 193, 194, 195, 36, 37, 38, 40, 236, 237, 238, 239, 240, 241, 242, 243, 244, 245, 246, 247, 248, 249, 250, 251, 252, 253, 254, 255, 256, 257, 258, 272, 273, 274, 275, 276, 277, 278, 279, 280] (by decide +kernel) (by decide +kernel)) (goodIn_sub (fun _ h => List.mem_cons_of_mem _ (List.mem_append_left _ (List.mem_append_left _ (List.mem_append_right _ h)))) (by decide +kernel))
set_option maxRecDepth 20000 in
theorem gX6_digest_X6_wouldGive : GoodIn wsX6_digest (wsV RX6 266 RX6 yX6_wouldGive wsX6_wouldGive) := goodIn_app (goodIn_of _ (by decide +kernel)) ggX6_digest_X6_wouldGive
set_option maxRecDepth 20000 in
theorem ggX6_digest_X6_keptBack : GoodIn wsX6_digest wsX6_keptBack := goodIn_ca (goodIn_ca (goodIn_r _ [226, 3, 47, 83, 227, 228, 10, 229, 53, 54, 50, 51, 52, 230, 194, 195, 20, 21, 22, 23, 24, 231, 37, 38, 39, 40, 41, 42, 90, 91, 92, 28, 93, 30, 94, 95, 96, 97, 98, 99, 100, 101, 102, 103, 104, 105, 106, 107, 59, 64, 108, 109, 110, 111, 112, 113, 114, 115, 116, 117, 118, 119, 120, 121, 122, 123, 124, 125, 126, 127, 128, 129, 130, 131, 132, 133, 134, 135, 136, 137, 138, 139, 140, 141, 142, 143, 144, 145, 146, 147, 148, 149, 150, 151, 152, 153, 154, 155, 56, 57, 58, 60, 61, 62, 63, 156, 157, 158, 159, 160, 161, 162, 163, 164, 165, 166, 167, 168, 169, 170, 171, 172, 173, 174, 175, 176, 177, 178, 179, 180, 181, 182, 183, 184, 185, 31, 186, 187, 188, 189, 190, 191, 192, 193, 36, 232, 233, 234, 235, 236, 237, 238, 239, 240, 241, 242, 243, 244, 245, 246, 247, 248, 249, 250, 251, 252, 253, 254, 255, 256, 257, 258, 272, 273, 274, 275, 276, 277, 278, 279, 280] (by decide +kernel) (by decide +kernel)) (goodIn_sub (fun _ h => List.mem_cons_of_mem _ (List.mem_append_left _ (List.mem_append_right _ h))) (by decide +kernel))) (goodIn_sub (fun _ h => List.mem_cons_of_mem _ (List.mem_append_left _ (List.mem_append_left _ (List.mem_append_right _ h)))) (by decide +kernel))
set_option maxRecDepth 20000 in
theorem gX6_digest_X6_keptBack : GoodIn wsX6_digest (wsV RX6 269 RX6 yX6_keptBack wsX6_keptBack) := goodIn_app (goodIn_of _ (by decide +kernel)) ggX6_digest_X6_keptBack
theorem dX6_digest_0 : decode cX6_digest 0 = .ok (.ldc2_w 244, 3) := by decide +kernel
theorem dX6_digest_3 : decode cX6_digest 3 = .ok (.lstore_n 1, 1) := by decide +kernel
theorem dX6_digest_4 : decode cX6_digest 4 = .ok (.iconst 0, 1) := by decide +kernel
theorem dX6_digest_5 : decode cX6_digest 5 = .ok (.istore_n 3, 1) := by decide +kernel
theorem dX6_digest_6 : decode cX6_digest 6 = .ok (.iload_n 3, 1) := by decide +kernel
theorem dX6_digest_7 : decode cX6_digest 7 = .ok (.bipush 14, 2) := by decide +kernel
theorem dX6_digest_9 : decode cX6_digest 9 = .ok (.if_icmp .gt 22, 3) := by decide +kernel
theorem dX6_digest_12 : decode cX6_digest 12 = .ok (.lload_n 1, 1) := by decide +kernel
theorem dX6_digest_13 : decode cX6_digest 13 = .ok (.ldc2_w 246, 3) := by decide +kernel
theorem dX6_digest_16 : decode cX6_digest 16 = .ok (.lmul, 1) := by decide +kernel
theorem dX6_digest_17 : decode cX6_digest 17 = .ok (.aload_n 0, 1) := by decide +kernel
theorem dX6_digest_18 : decode cX6_digest 18 = .ok (.iload_n 3, 1) := by decide +kernel
theorem dX6_digest_19 : decode cX6_digest 19 = .ok (.invokevirtual 248, 3) := by decide +kernel
theorem dX6_digest_22 : decode cX6_digest 22 = .ok (.i2l, 1) := by decide +kernel
theorem dX6_digest_23 : decode cX6_digest 23 = .ok (.ladd, 1) := by decide +kernel
theorem dX6_digest_24 : decode cX6_digest 24 = .ok (.lstore_n 1, 1) := by decide +kernel
theorem dX6_digest_25 : decode cX6_digest 25 = .ok (.iinc 3 1, 3) := by decide +kernel
theorem dX6_digest_28 : decode cX6_digest 28 = .ok (.goto (-22), 3) := by decide +kernel
theorem dX6_digest_31 : decode cX6_digest 31 = .ok (.iconst 0, 1) := by decide +kernel
theorem dX6_digest_32 : decode cX6_digest 32 = .ok (.istore_n 3, 1) := by decide +kernel
theorem dX6_digest_33 : decode cX6_digest 33 = .ok (.iload_n 3, 1) := by decide +kernel
theorem dX6_digest_34 : decode cX6_digest 34 = .ok (.bipush 16, 2) := by decide +kernel
theorem dX6_digest_36 : decode cX6_digest 36 = .ok (.if_icmp .ge 39, 3) := by decide +kernel
theorem dX6_digest_39 : decode cX6_digest 39 = .ok (.iconst 0, 1) := by decide +kernel
theorem dX6_digest_40 : decode cX6_digest 40 = .ok (.istore 4, 2) := by decide +kernel
theorem dX6_digest_42 : decode cX6_digest 42 = .ok (.iload 4, 2) := by decide +kernel
theorem dX6_digest_44 : decode cX6_digest 44 = .ok (.iconst 4, 1) := by decide +kernel
theorem dX6_digest_45 : decode cX6_digest 45 = .ok (.if_icmp .gt 24, 3) := by decide +kernel
theorem dX6_digest_48 : decode cX6_digest 48 = .ok (.lload_n 1, 1) := by decide +kernel
theorem dX6_digest_49 : decode cX6_digest 49 = .ok (.ldc2_w 246, 3) := by decide +kernel
theorem dX6_digest_52 : decode cX6_digest 52 = .ok (.lmul, 1) := by decide +kernel
theorem dX6_digest_53 : decode cX6_digest 53 = .ok (.aload_n 0, 1) := by decide +kernel
theorem dX6_digest_54 : decode cX6_digest 54 = .ok (.iload_n 3, 1) := by decide +kernel
theorem dX6_digest_55 : decode cX6_digest 55 = .ok (.iload 4, 2) := by decide +kernel
theorem dX6_digest_57 : decode cX6_digest 57 = .ok (.invokevirtual 251, 3) := by decide +kernel
theorem dX6_digest_60 : decode cX6_digest 60 = .ok (.i2l, 1) := by decide +kernel
theorem dX6_digest_61 : decode cX6_digest 61 = .ok (.ladd, 1) := by decide +kernel
theorem dX6_digest_62 : decode cX6_digest 62 = .ok (.lstore_n 1, 1) := by decide +kernel
theorem dX6_digest_63 : decode cX6_digest 63 = .ok (.iinc 4 1, 3) := by decide +kernel
theorem dX6_digest_66 : decode cX6_digest 66 = .ok (.goto (-24), 3) := by decide +kernel
theorem dX6_digest_69 : decode cX6_digest 69 = .ok (.iinc 3 1, 3) := by decide +kernel
theorem dX6_digest_72 : decode cX6_digest 72 = .ok (.goto (-39), 3) := by decide +kernel
theorem dX6_digest_75 : decode cX6_digest 75 = .ok (.iconst 0, 1) := by decide +kernel
theorem dX6_digest_76 : decode cX6_digest 76 = .ok (.istore_n 3, 1) := by decide +kernel
theorem dX6_digest_77 : decode cX6_digest 77 = .ok (.iload_n 3, 1) := by decide +kernel
theorem dX6_digest_78 : decode cX6_digest 78 = .ok (.aload_n 0, 1) := by decide +kernel
theorem dX6_digest_79 : decode cX6_digest 79 = .ok (.getfield 10, 3) := by decide +kernel
theorem dX6_digest_82 : decode cX6_digest 82 = .ok (.getfield 87, 3) := by decide +kernel
theorem dX6_digest_85 : decode cX6_digest 85 = .ok (.if_icmp .ge 66, 3) := by decide +kernel
theorem dX6_digest_88 : decode cX6_digest 88 = .ok (.iconst 0, 1) := by decide +kernel
theorem dX6_digest_89 : decode cX6_digest 89 = .ok (.istore 4, 2) := by decide +kernel
theorem dX6_digest_91 : decode cX6_digest 91 = .ok (.iload 4, 2) := by decide +kernel
theorem dX6_digest_93 : decode cX6_digest 93 = .ok (.bipush 13, 2) := by decide +kernel
theorem dX6_digest_95 : decode cX6_digest 95 = .ok (.if_icmp .gt 24, 3) := by decide +kernel
theorem dX6_digest_98 : decode cX6_digest 98 = .ok (.lload_n 1, 1) := by decide +kernel
theorem dX6_digest_99 : decode cX6_digest 99 = .ok (.ldc2_w 246, 3) := by decide +kernel
theorem dX6_digest_102 : decode cX6_digest 102 = .ok (.lmul, 1) := by decide +kernel
theorem dX6_digest_103 : decode cX6_digest 103 = .ok (.aload_n 0, 1) := by decide +kernel
theorem dX6_digest_104 : decode cX6_digest 104 = .ok (.iload_n 3, 1) := by decide +kernel
theorem dX6_digest_105 : decode cX6_digest 105 = .ok (.iload 4, 2) := by decide +kernel
theorem dX6_digest_107 : decode cX6_digest 107 = .ok (.invokevirtual 254, 3) := by decide +kernel
theorem dX6_digest_110 : decode cX6_digest 110 = .ok (.i2l, 1) := by decide +kernel
theorem dX6_digest_111 : decode cX6_digest 111 = .ok (.ladd, 1) := by decide +kernel
theorem dX6_digest_112 : decode cX6_digest 112 = .ok (.lstore_n 1, 1) := by decide +kernel
theorem dX6_digest_113 : decode cX6_digest 113 = .ok (.iinc 4 1, 3) := by decide +kernel
theorem dX6_digest_116 : decode cX6_digest 116 = .ok (.goto (-25), 3) := by decide +kernel
theorem dX6_digest_119 : decode cX6_digest 119 = .ok (.aload_n 0, 1) := by decide +kernel
theorem dX6_digest_120 : decode cX6_digest 120 = .ok (.getfield 21, 3) := by decide +kernel
theorem dX6_digest_123 : decode cX6_digest 123 = .ok (.iload_n 3, 1) := by decide +kernel
theorem dX6_digest_124 : decode cX6_digest 124 = .ok (.aaload, 1) := by decide +kernel
theorem dX6_digest_125 : decode cX6_digest 125 = .ok (.getfield 125, 3) := by decide +kernel
theorem dX6_digest_128 : decode cX6_digest 128 = .ok (.ifCond .ne 17, 3) := by decide +kernel
theorem dX6_digest_131 : decode cX6_digest 131 = .ok (.lload_n 1, 1) := by decide +kernel
theorem dX6_digest_132 : decode cX6_digest 132 = .ok (.ldc2_w 246, 3) := by decide +kernel
theorem dX6_digest_135 : decode cX6_digest 135 = .ok (.lmul, 1) := by decide +kernel
theorem dX6_digest_136 : decode cX6_digest 136 = .ok (.aload_n 0, 1) := by decide +kernel
theorem dX6_digest_137 : decode cX6_digest 137 = .ok (.iload_n 3, 1) := by decide +kernel
theorem dX6_digest_138 : decode cX6_digest 138 = .ok (.iconst 2, 1) := by decide +kernel
theorem dX6_digest_139 : decode cX6_digest 139 = .ok (.invokevirtual 257, 3) := by decide +kernel
theorem dX6_digest_142 : decode cX6_digest 142 = .ok (.i2l, 1) := by decide +kernel
end
section
theorem dX6_digest_143 : decode cX6_digest 143 = .ok (.ladd, 1) := by decide +kernel
theorem dX6_digest_144 : decode cX6_digest 144 = .ok (.lstore_n 1, 1) := by decide +kernel
theorem dX6_digest_145 : decode cX6_digest 145 = .ok (.iinc 3 1, 3) := by decide +kernel
theorem dX6_digest_148 : decode cX6_digest 148 = .ok (.goto (-71), 3) := by decide +kernel
theorem dX6_digest_151 : decode cX6_digest 151 = .ok (.iconst 0, 1) := by decide +kernel
theorem dX6_digest_152 : decode cX6_digest 152 = .ok (.istore_n 3, 1) := by decide +kernel
theorem dX6_digest_153 : decode cX6_digest 153 = .ok (.iload_n 3, 1) := by decide +kernel
theorem dX6_digest_154 : decode cX6_digest 154 = .ok (.iconst 3, 1) := by decide +kernel
theorem dX6_digest_155 : decode cX6_digest 155 = .ok (.if_icmp .ge 52, 3) := by decide +kernel
theorem dX6_digest_158 : decode cX6_digest 158 = .ok (.iconst 0, 1) := by decide +kernel
theorem dX6_digest_159 : decode cX6_digest 159 = .ok (.istore 4, 2) := by decide +kernel
theorem dX6_digest_161 : decode cX6_digest 161 = .ok (.iload 4, 2) := by decide +kernel
theorem dX6_digest_163 : decode cX6_digest 163 = .ok (.iconst 3, 1) := by decide +kernel
theorem dX6_digest_164 : decode cX6_digest 164 = .ok (.if_icmp .gt 24, 3) := by decide +kernel
theorem dX6_digest_167 : decode cX6_digest 167 = .ok (.lload_n 1, 1) := by decide +kernel
theorem dX6_digest_168 : decode cX6_digest 168 = .ok (.ldc2_w 246, 3) := by decide +kernel
theorem dX6_digest_171 : decode cX6_digest 171 = .ok (.lmul, 1) := by decide +kernel
theorem dX6_digest_172 : decode cX6_digest 172 = .ok (.aload_n 0, 1) := by decide +kernel
theorem dX6_digest_173 : decode cX6_digest 173 = .ok (.iload_n 3, 1) := by decide +kernel
theorem dX6_digest_174 : decode cX6_digest 174 = .ok (.iload 4, 2) := by decide +kernel
theorem dX6_digest_176 : decode cX6_digest 176 = .ok (.invokevirtual 260, 3) := by decide +kernel
theorem dX6_digest_179 : decode cX6_digest 179 = .ok (.i2l, 1) := by decide +kernel
theorem dX6_digest_180 : decode cX6_digest 180 = .ok (.ladd, 1) := by decide +kernel
theorem dX6_digest_181 : decode cX6_digest 181 = .ok (.lstore_n 1, 1) := by decide +kernel
theorem dX6_digest_182 : decode cX6_digest 182 = .ok (.iinc 4 1, 3) := by decide +kernel
theorem dX6_digest_185 : decode cX6_digest 185 = .ok (.goto (-24), 3) := by decide +kernel
theorem dX6_digest_188 : decode cX6_digest 188 = .ok (.lload_n 1, 1) := by decide +kernel
theorem dX6_digest_189 : decode cX6_digest 189 = .ok (.ldc2_w 246, 3) := by decide +kernel
theorem dX6_digest_192 : decode cX6_digest 192 = .ok (.lmul, 1) := by decide +kernel
theorem dX6_digest_193 : decode cX6_digest 193 = .ok (.aload_n 0, 1) := by decide +kernel
theorem dX6_digest_194 : decode cX6_digest 194 = .ok (.iload_n 3, 1) := by decide +kernel
theorem dX6_digest_195 : decode cX6_digest 195 = .ok (.invokevirtual 163, 3) := by decide +kernel
theorem dX6_digest_198 : decode cX6_digest 198 = .ok (.i2l, 1) := by decide +kernel
theorem dX6_digest_199 : decode cX6_digest 199 = .ok (.ladd, 1) := by decide +kernel
theorem dX6_digest_200 : decode cX6_digest 200 = .ok (.lstore_n 1, 1) := by decide +kernel
theorem dX6_digest_201 : decode cX6_digest 201 = .ok (.iinc 3 1, 3) := by decide +kernel
theorem dX6_digest_204 : decode cX6_digest 204 = .ok (.goto (-51), 3) := by decide +kernel
theorem dX6_digest_207 : decode cX6_digest 207 = .ok (.iconst 0, 1) := by decide +kernel
theorem dX6_digest_208 : decode cX6_digest 208 = .ok (.istore_n 3, 1) := by decide +kernel
theorem dX6_digest_209 : decode cX6_digest 209 = .ok (.iload_n 3, 1) := by decide +kernel
theorem dX6_digest_210 : decode cX6_digest 210 = .ok (.iconst 4, 1) := by decide +kernel
theorem dX6_digest_211 : decode cX6_digest 211 = .ok (.if_icmp .gt 22, 3) := by decide +kernel
theorem dX6_digest_214 : decode cX6_digest 214 = .ok (.lload_n 1, 1) := by decide +kernel
theorem dX6_digest_215 : decode cX6_digest 215 = .ok (.ldc2_w 246, 3) := by decide +kernel
theorem dX6_digest_218 : decode cX6_digest 218 = .ok (.lmul, 1) := by decide +kernel
theorem dX6_digest_219 : decode cX6_digest 219 = .ok (.aload_n 0, 1) := by decide +kernel
theorem dX6_digest_220 : decode cX6_digest 220 = .ok (.iload_n 3, 1) := by decide +kernel
theorem dX6_digest_221 : decode cX6_digest 221 = .ok (.invokevirtual 263, 3) := by decide +kernel
theorem dX6_digest_224 : decode cX6_digest 224 = .ok (.i2l, 1) := by decide +kernel
theorem dX6_digest_225 : decode cX6_digest 225 = .ok (.ladd, 1) := by decide +kernel
theorem dX6_digest_226 : decode cX6_digest 226 = .ok (.lstore_n 1, 1) := by decide +kernel
theorem dX6_digest_227 : decode cX6_digest 227 = .ok (.iinc 3 1, 3) := by decide +kernel
theorem dX6_digest_230 : decode cX6_digest 230 = .ok (.goto (-21), 3) := by decide +kernel
theorem dX6_digest_233 : decode cX6_digest 233 = .ok (.lload_n 1, 1) := by decide +kernel
theorem dX6_digest_234 : decode cX6_digest 234 = .ok (.ldc2_w 246, 3) := by decide +kernel
theorem dX6_digest_237 : decode cX6_digest 237 = .ok (.lmul, 1) := by decide +kernel
theorem dX6_digest_238 : decode cX6_digest 238 = .ok (.aload_n 0, 1) := by decide +kernel
theorem dX6_digest_239 : decode cX6_digest 239 = .ok (.iconst 3, 1) := by decide +kernel
theorem dX6_digest_240 : decode cX6_digest 240 = .ok (.invokevirtual 266, 3) := by decide +kernel
theorem dX6_digest_243 : decode cX6_digest 243 = .ok (.i2l, 1) := by decide +kernel
theorem dX6_digest_244 : decode cX6_digest 244 = .ok (.ladd, 1) := by decide +kernel
theorem dX6_digest_245 : decode cX6_digest 245 = .ok (.lstore_n 1, 1) := by decide +kernel
theorem dX6_digest_246 : decode cX6_digest 246 = .ok (.lload_n 1, 1) := by decide +kernel
theorem dX6_digest_247 : decode cX6_digest 247 = .ok (.ldc2_w 246, 3) := by decide +kernel
theorem dX6_digest_250 : decode cX6_digest 250 = .ok (.lmul, 1) := by decide +kernel
theorem dX6_digest_251 : decode cX6_digest 251 = .ok (.aload_n 0, 1) := by decide +kernel
theorem dX6_digest_252 : decode cX6_digest 252 = .ok (.iconst 5, 1) := by decide +kernel
theorem dX6_digest_253 : decode cX6_digest 253 = .ok (.iconst 1, 1) := by decide +kernel
theorem dX6_digest_254 : decode cX6_digest 254 = .ok (.iconst 2, 1) := by decide +kernel
theorem dX6_digest_255 : decode cX6_digest 255 = .ok (.invokevirtual 269, 3) := by decide +kernel
theorem dX6_digest_258 : decode cX6_digest 258 = .ok (.i2l, 1) := by decide +kernel
theorem dX6_digest_259 : decode cX6_digest 259 = .ok (.ladd, 1) := by decide +kernel
theorem dX6_digest_260 : decode cX6_digest 260 = .ok (.lstore_n 1, 1) := by decide +kernel
theorem dX6_digest_261 : decode cX6_digest 261 = .ok (.lload_n 1, 1) := by decide +kernel
theorem dX6_digest_262 : decode cX6_digest 262 = .ok (.ldc2_w 246, 3) := by decide +kernel
theorem dX6_digest_265 : decode cX6_digest 265 = .ok (.lmul, 1) := by decide +kernel
theorem dX6_digest_266 : decode cX6_digest 266 = .ok (.aload_n 0, 1) := by decide +kernel
theorem dX6_digest_267 : decode cX6_digest 267 = .ok (.iconst 5, 1) := by decide +kernel
theorem dX6_digest_268 : decode cX6_digest 268 = .ok (.iconst 0, 1) := by decide +kernel
theorem dX6_digest_269 : decode cX6_digest 269 = .ok (.iconst 2, 1) := by decide +kernel
theorem dX6_digest_270 : decode cX6_digest 270 = .ok (.invokevirtual 269, 3) := by decide +kernel
theorem dX6_digest_273 : decode cX6_digest 273 = .ok (.i2l, 1) := by decide +kernel
theorem dX6_digest_274 : decode cX6_digest 274 = .ok (.ladd, 1) := by decide +kernel
theorem dX6_digest_275 : decode cX6_digest 275 = .ok (.lreturn, 1) := by decide +kernel
theorem dX6_needIndex_0 : decode cX6_needIndex 0 = .ok (.iload_n 0, 1) := by decide +kernel
theorem dX6_needIndex_1 : decode cX6_needIndex 1 = .ok (.ifCond .lt 8, 3) := by decide +kernel
theorem dX6_needIndex_4 : decode cX6_needIndex 4 = .ok (.iload_n 0, 1) := by decide +kernel
theorem dX6_needIndex_5 : decode cX6_needIndex 5 = .ok (.iload_n 1, 1) := by decide +kernel
theorem dX6_needIndex_6 : decode cX6_needIndex 6 = .ok (.if_icmp .lt 14, 3) := by decide +kernel
theorem dX6_needIndex_9 : decode cX6_needIndex 9 = .ok (.new 273, 3) := by decide +kernel
theorem dX6_needIndex_12 : decode cX6_needIndex 12 = .ok (.dup, 1) := by decide +kernel
theorem dX6_needIndex_13 : decode cX6_needIndex 13 = .ok (.ldc_w 275, 3) := by decide +kernel
theorem dX6_needIndex_16 : decode cX6_needIndex 16 = .ok (.invokespecial 277, 3) := by decide +kernel
theorem dX6_needIndex_19 : decode cX6_needIndex 19 = .ok (.athrow, 1) := by decide +kernel
theorem dX6_needIndex_20 : decode cX6_needIndex 20 = .ok (.return_, 1) := by decide +kernel
set_option maxRecDepth 20000 in
theorem ggX6_needNeighbour_X6_needIndex : GoodIn wsX6_needNeighbour wsX6_needIndex := goodIn_ca (goodIn_r _ [6, 1, 2] (by decide +kernel) (by decide +kernel)) (goodIn_sub (fun _ h => List.mem_cons_of_mem _ (List.mem_append_right _ h)) (by decide +kernel))
set_option maxRecDepth 20000 in
theorem gX6_needNeighbour_X6_needIndex : GoodIn wsX6_needNeighbour (va_wsS RX6 51 yX6_needIndex wsX6_needIndex) := goodIn_app (goodIn_of _ (by decide +kernel)) ggX6_needNeighbour_X6_needIndex
set_option maxRecDepth 20000 in
theorem ggX6_needNeighbour_X6_neighbour : GoodIn wsX6_needNeighbour wsX6_neighbour := goodIn_r _ [9] (by decide +kernel) (by decide +kernel)
set_option maxRecDepth 20000 in
theorem gX6_needNeighbour_X6_neighbour : GoodIn wsX6_needNeighbour (va_wsS RX6 278 yX6_neighbour wsX6_neighbour) := goodIn_app (goodIn_of _ (by decide +kernel)) ggX6_needNeighbour_X6_neighbour
theorem dX6_needNeighbour_0 : decode cX6_needNeighbour 0 = .ok (.iload_n 0, 1) := by decide +kernel
theorem dX6_needNeighbour_1 : decode cX6_needNeighbour 1 = .ok (.bipush 16, 2) := by decide +kernel
theorem dX6_needNeighbour_3 : decode cX6_needNeighbour 3 = .ok (.invokestatic 51, 3) := by decide +kernel
theorem dX6_needNeighbour_6 : decode cX6_needNeighbour 6 = .ok (.iload_n 0, 1) := by decide +kernel
theorem dX6_needNeighbour_7 : decode cX6_needNeighbour 7 = .ok (.iload_n 1, 1) := by decide +kernel
theorem dX6_needNeighbour_8 : decode cX6_needNeighbour 8 = .ok (.invokestatic 278, 3) := by decide +kernel
theorem dX6_needNeighbour_11 : decode cX6_needNeighbour 11 = .ok (.iconst (-1), 1) := by decide +kernel
theorem dX6_needNeighbour_12 : decode cX6_needNeighbour 12 = .ok (.if_icmp .ne 14, 3) := by decide +kernel
theorem dX6_needNeighbour_15 : decode cX6_needNeighbour 15 = .ok (.new 273, 3) := by decide +kernel
theorem dX6_needNeighbour_18 : decode cX6_needNeighbour 18 = .ok (.dup, 1) := by decide +kernel
theorem dX6_needNeighbour_19 : decode cX6_needNeighbour 19 = .ok (.ldc_w 282, 3) := by decide +kernel
theorem dX6_needNeighbour_22 : decode cX6_needNeighbour 22 = .ok (.invokespecial 277, 3) := by decide +kernel
theorem dX6_needNeighbour_25 : decode cX6_needNeighbour 25 = .ok (.athrow, 1) := by decide +kernel
theorem dX6_needNeighbour_26 : decode cX6_needNeighbour 26 = .ok (.return_, 1) := by decide +kernel
theorem dX6_needWithin_0 : decode cX6_needWithin 0 = .ok (.iload_n 0, 1) := by decide +kernel
theorem dX6_needWithin_1 : decode cX6_needWithin 1 = .ok (.iload_n 1, 1) := by decide +kernel
theorem dX6_needWithin_2 : decode cX6_needWithin 2 = .ok (.if_icmp .lt 8, 3) := by decide +kernel
theorem dX6_needWithin_5 : decode cX6_needWithin 5 = .ok (.iload_n 0, 1) := by decide +kernel
theorem dX6_needWithin_6 : decode cX6_needWithin 6 = .ok (.iload_n 2, 1) := by decide +kernel
theorem dX6_needWithin_7 : decode cX6_needWithin 7 = .ok (.if_icmp .le 14, 3) := by decide +kernel
theorem dX6_needWithin_10 : decode cX6_needWithin 10 = .ok (.new 284, 3) := by decide +kernel
theorem dX6_needWithin_13 : decode cX6_needWithin 13 = .ok (.dup, 1) := by decide +kernel
theorem dX6_needWithin_14 : decode cX6_needWithin 14 = .ok (.ldc_w 286, 3) := by decide +kernel
theorem dX6_needWithin_17 : decode cX6_needWithin 17 = .ok (.invokespecial 288, 3) := by decide +kernel
theorem dX6_needWithin_20 : decode cX6_needWithin 20 = .ok (.athrow, 1) := by decide +kernel
theorem dX6_needWithin_21 : decode cX6_needWithin 21 = .ok (.return_, 1) := by decide +kernel
theorem dX6_needOpen_0 : decode cX6_needOpen 0 = .ok (.aload_n 0, 1) := by decide +kernel
theorem dX6_needOpen_1 : decode cX6_needOpen 1 = .ok (.getfield 21, 3) := by decide +kernel
theorem dX6_needOpen_4 : decode cX6_needOpen 4 = .ok (.iload_n 1, 1) := by decide +kernel
theorem dX6_needOpen_5 : decode cX6_needOpen 5 = .ok (.aaload, 1) := by decide +kernel
theorem dX6_needOpen_6 : decode cX6_needOpen 6 = .ok (.getfield 125, 3) := by decide +kernel
theorem dX6_needOpen_9 : decode cX6_needOpen 9 = .ok (.ifCond .eq 14, 3) := by decide +kernel
theorem dX6_needOpen_12 : decode cX6_needOpen 12 = .ok (.new 90, 3) := by decide +kernel
theorem dX6_needOpen_15 : decode cX6_needOpen 15 = .ok (.dup, 1) := by decide +kernel
theorem dX6_needOpen_16 : decode cX6_needOpen 16 = .ok (.ldc_w 289, 3) := by decide +kernel
theorem dX6_needOpen_19 : decode cX6_needOpen 19 = .ok (.invokespecial 94, 3) := by decide +kernel
theorem dX6_needOpen_22 : decode cX6_needOpen 22 = .ok (.athrow, 1) := by decide +kernel
theorem dX6_needOpen_23 : decode cX6_needOpen 23 = .ok (.return_, 1) := by decide +kernel
theorem dX6_neighbour_0 : decode cX6_neighbour 0 = .ok (.iload_n 1, 1) := by decide +kernel
theorem dX6_neighbour_1 : decode cX6_neighbour 1 = .ok (.ifCond .eq 18, 3) := by decide +kernel
theorem dX6_neighbour_4 : decode cX6_neighbour 4 = .ok (.iload_n 0, 1) := by decide +kernel
theorem dX6_neighbour_5 : decode cX6_neighbour 5 = .ok (.iconst 4, 1) := by decide +kernel
theorem dX6_neighbour_6 : decode cX6_neighbour 6 = .ok (.irem, 1) := by decide +kernel
theorem dX6_neighbour_7 : decode cX6_neighbour 7 = .ok (.iconst 3, 1) := by decide +kernel
theorem dX6_neighbour_8 : decode cX6_neighbour 8 = .ok (.if_icmp .ne 7, 3) := by decide +kernel
theorem dX6_neighbour_11 : decode cX6_neighbour 11 = .ok (.iconst (-1), 1) := by decide +kernel
theorem dX6_neighbour_12 : decode cX6_neighbour 12 = .ok (.goto 6, 3) := by decide +kernel
theorem dX6_neighbour_15 : decode cX6_neighbour 15 = .ok (.iload_n 0, 1) := by decide +kernel
theorem dX6_neighbour_16 : decode cX6_neighbour 16 = .ok (.iconst 1, 1) := by decide +kernel
theorem dX6_neighbour_17 : decode cX6_neighbour 17 = .ok (.iadd, 1) := by decide +kernel
theorem dX6_neighbour_18 : decode cX6_neighbour 18 = .ok (.ireturn, 1) := by decide +kernel
theorem dX6_neighbour_19 : decode cX6_neighbour 19 = .ok (.iload_n 0, 1) := by decide +kernel
theorem dX6_neighbour_20 : decode cX6_neighbour 20 = .ok (.iconst 4, 1) := by decide +kernel
theorem dX6_neighbour_21 : decode cX6_neighbour 21 = .ok (.iadd, 1) := by decide +kernel
theorem dX6_neighbour_22 : decode cX6_neighbour 22 = .ok (.bipush 16, 2) := by decide +kernel
theorem dX6_neighbour_24 : decode cX6_neighbour 24 = .ok (.if_icmp .lt 7, 3) := by decide +kernel
theorem dX6_neighbour_27 : decode cX6_neighbour 27 = .ok (.iconst (-1), 1) := by decide +kernel
theorem dX6_neighbour_28 : decode cX6_neighbour 28 = .ok (.goto 6, 3) := by decide +kernel
theorem dX6_neighbour_31 : decode cX6_neighbour 31 = .ok (.iload_n 0, 1) := by decide +kernel
theorem dX6_neighbour_32 : decode cX6_neighbour 32 = .ok (.iconst 4, 1) := by decide +kernel
theorem dX6_neighbour_33 : decode cX6_neighbour 33 = .ok (.iadd, 1) := by decide +kernel
theorem dX6_neighbour_34 : decode cX6_neighbour 34 = .ok (.ireturn, 1) := by decide +kernel
theorem dX6_countMonth_0 : decode cX6_countMonth 0 = .ok (.iconst 0, 1) := by decide +kernel
theorem dX6_countMonth_1 : decode cX6_countMonth 1 = .ok (.istore_n 1, 1) := by decide +kernel
theorem dX6_countMonth_2 : decode cX6_countMonth 2 = .ok (.iload_n 1, 1) := by decide +kernel
theorem dX6_countMonth_3 : decode cX6_countMonth 3 = .ok (.iconst 3, 1) := by decide +kernel
theorem dX6_countMonth_4 : decode cX6_countMonth 4 = .ok (.if_icmp .ge 27, 3) := by decide +kernel
theorem dX6_countMonth_7 : decode cX6_countMonth 7 = .ok (.aload_n 0, 1) := by decide +kernel
theorem dX6_countMonth_8 : decode cX6_countMonth 8 = .ok (.getfield 38, 3) := by decide +kernel
theorem dX6_countMonth_11 : decode cX6_countMonth 11 = .ok (.iload_n 1, 1) := by decide +kernel
theorem dX6_countMonth_12 : decode cX6_countMonth 12 = .ok (.dup2, 1) := by decide +kernel
theorem dX6_countMonth_13 : decode cX6_countMonth 13 = .ok (.iaload, 1) := by decide +kernel
theorem dX6_countMonth_14 : decode cX6_countMonth 14 = .ok (.aload_n 0, 1) := by decide +kernel
theorem dX6_countMonth_15 : decode cX6_countMonth 15 = .ok (.getfield 10, 3) := by decide +kernel
theorem dX6_countMonth_18 : decode cX6_countMonth 18 = .ok (.getfield 151, 3) := by decide +kernel
theorem dX6_countMonth_21 : decode cX6_countMonth 21 = .ok (.iload_n 1, 1) := by decide +kernel
theorem dX6_countMonth_22 : decode cX6_countMonth 22 = .ok (.iaload, 1) := by decide +kernel
theorem dX6_countMonth_23 : decode cX6_countMonth 23 = .ok (.iadd, 1) := by decide +kernel
theorem dX6_countMonth_24 : decode cX6_countMonth 24 = .ok (.iastore, 1) := by decide +kernel
theorem dX6_countMonth_25 : decode cX6_countMonth 25 = .ok (.iinc 1 1, 3) := by decide +kernel
theorem dX6_countMonth_28 : decode cX6_countMonth 28 = .ok (.goto (-26), 3) := by decide +kernel
theorem dX6_countMonth_31 : decode cX6_countMonth 31 = .ok (.aload_n 0, 1) := by decide +kernel
theorem dX6_countMonth_32 : decode cX6_countMonth 32 = .ok (.dup, 1) := by decide +kernel
theorem dX6_countMonth_33 : decode cX6_countMonth 33 = .ok (.getfield 223, 3) := by decide +kernel
theorem dX6_countMonth_36 : decode cX6_countMonth 36 = .ok (.aload_n 0, 1) := by decide +kernel
theorem dX6_countMonth_37 : decode cX6_countMonth 37 = .ok (.getfield 10, 3) := by decide +kernel
theorem dX6_countMonth_40 : decode cX6_countMonth 40 = .ok (.getfield 291, 3) := by decide +kernel
theorem dX6_countMonth_43 : decode cX6_countMonth 43 = .ok (.iadd, 1) := by decide +kernel
theorem dX6_countMonth_44 : decode cX6_countMonth 44 = .ok (.putfield 223, 3) := by decide +kernel
theorem dX6_countMonth_47 : decode cX6_countMonth 47 = .ok (.aload_n 0, 1) := by decide +kernel
theorem dX6_countMonth_48 : decode cX6_countMonth 48 = .ok (.dup, 1) := by decide +kernel
theorem dX6_countMonth_49 : decode cX6_countMonth 49 = .ok (.getfield 226, 3) := by decide +kernel
theorem dX6_countMonth_52 : decode cX6_countMonth 52 = .ok (.aload_n 0, 1) := by decide +kernel
theorem dX6_countMonth_53 : decode cX6_countMonth 53 = .ok (.getfield 10, 3) := by decide +kernel
theorem dX6_countMonth_56 : decode cX6_countMonth 56 = .ok (.getfield 294, 3) := by decide +kernel
theorem dX6_countMonth_59 : decode cX6_countMonth 59 = .ok (.iadd, 1) := by decide +kernel
theorem dX6_countMonth_60 : decode cX6_countMonth 60 = .ok (.putfield 226, 3) := by decide +kernel
theorem dX6_countMonth_63 : decode cX6_countMonth 63 = .ok (.aload_n 0, 1) := by decide +kernel
theorem dX6_countMonth_64 : decode cX6_countMonth 64 = .ok (.dup, 1) := by decide +kernel
theorem dX6_countMonth_65 : decode cX6_countMonth 65 = .ok (.getfield 229, 3) := by decide +kernel
theorem dX6_countMonth_68 : decode cX6_countMonth 68 = .ok (.aload_n 0, 1) := by decide +kernel
theorem dX6_countMonth_69 : decode cX6_countMonth 69 = .ok (.getfield 10, 3) := by decide +kernel
theorem dX6_countMonth_72 : decode cX6_countMonth 72 = .ok (.getfield 297, 3) := by decide +kernel
theorem dX6_countMonth_75 : decode cX6_countMonth 75 = .ok (.iadd, 1) := by decide +kernel
theorem dX6_countMonth_76 : decode cX6_countMonth 76 = .ok (.putfield 229, 3) := by decide +kernel
theorem dX6_countMonth_79 : decode cX6_countMonth 79 = .ok (.iconst 0, 1) := by decide +kernel
theorem dX6_countMonth_80 : decode cX6_countMonth 80 = .ok (.istore_n 1, 1) := by decide +kernel
theorem dX6_countMonth_81 : decode cX6_countMonth 81 = .ok (.iload_n 1, 1) := by decide +kernel
theorem dX6_countMonth_82 : decode cX6_countMonth 82 = .ok (.aload_n 0, 1) := by decide +kernel
theorem dX6_countMonth_83 : decode cX6_countMonth 83 = .ok (.getfield 10, 3) := by decide +kernel
theorem dX6_countMonth_86 : decode cX6_countMonth 86 = .ok (.getfield 87, 3) := by decide +kernel
theorem dX6_countMonth_89 : decode cX6_countMonth 89 = .ok (.if_icmp .ge 52, 3) := by decide +kernel
theorem dX6_countMonth_92 : decode cX6_countMonth 92 = .ok (.aload_n 0, 1) := by decide +kernel
theorem dX6_countMonth_93 : decode cX6_countMonth 93 = .ok (.getfield 10, 3) := by decide +kernel
theorem dX6_countMonth_96 : decode cX6_countMonth 96 = .ok (.getfield 97, 3) := by decide +kernel
theorem dX6_countMonth_99 : decode cX6_countMonth 99 = .ok (.iload_n 1, 1) := by decide +kernel
theorem dX6_countMonth_100 : decode cX6_countMonth 100 = .ok (.aaload, 1) := by decide +kernel
theorem dX6_countMonth_101 : decode cX6_countMonth 101 = .ok (.getfield 101, 3) := by decide +kernel
theorem dX6_countMonth_104 : decode cX6_countMonth 104 = .ok (.ifCond .ne 31, 3) := by decide +kernel
theorem dX6_countMonth_107 : decode cX6_countMonth 107 = .ok (.aload_n 0, 1) := by decide +kernel
theorem dX6_countMonth_108 : decode cX6_countMonth 108 = .ok (.getfield 21, 3) := by decide +kernel
theorem dX6_countMonth_111 : decode cX6_countMonth 111 = .ok (.iload_n 1, 1) := by decide +kernel
theorem dX6_countMonth_112 : decode cX6_countMonth 112 = .ok (.aaload, 1) := by decide +kernel
theorem dX6_countMonth_113 : decode cX6_countMonth 113 = .ok (.dup, 1) := by decide +kernel
theorem dX6_countMonth_114 : decode cX6_countMonth 114 = .ok (.getfield 211, 3) := by decide +kernel
theorem dX6_countMonth_117 : decode cX6_countMonth 117 = .ok (.aload_n 0, 1) := by decide +kernel
theorem dX6_countMonth_118 : decode cX6_countMonth 118 = .ok (.getfield 10, 3) := by decide +kernel
theorem dX6_countMonth_121 : decode cX6_countMonth 121 = .ok (.getfield 97, 3) := by decide +kernel
theorem dX6_countMonth_124 : decode cX6_countMonth 124 = .ok (.iload_n 1, 1) := by decide +kernel
theorem dX6_countMonth_125 : decode cX6_countMonth 125 = .ok (.aaload, 1) := by decide +kernel
theorem dX6_countMonth_126 : decode cX6_countMonth 126 = .ok (.getfield 208, 3) := by decide +kernel
theorem dX6_countMonth_129 : decode cX6_countMonth 129 = .ok (.iconst 0, 1) := by decide +kernel
theorem dX6_countMonth_130 : decode cX6_countMonth 130 = .ok (.iaload, 1) := by decide +kernel
theorem dX6_countMonth_131 : decode cX6_countMonth 131 = .ok (.iadd, 1) := by decide +kernel
theorem dX6_countMonth_132 : decode cX6_countMonth 132 = .ok (.putfield 211, 3) := by decide +kernel
theorem dX6_countMonth_135 : decode cX6_countMonth 135 = .ok (.iinc 1 1, 3) := by decide +kernel
theorem dX6_countMonth_138 : decode cX6_countMonth 138 = .ok (.goto (-57), 3) := by decide +kernel
theorem dX6_countMonth_141 : decode cX6_countMonth 141 = .ok (.return_, 1) := by decide +kernel
set_option maxRecDepth 20000 in
theorem ggX6_allocate_X4_hasProduced : GoodIn wsX6_allocate wsX4_hasProduced := goodIn_r _ [11, 12, 13, 47, 48, 49, 50, 51] (by decide +kernel) (by decide +kernel)
set_option maxRecDepth 20000 in
theorem gX6_allocate_X4_hasProduced : GoodIn wsX6_allocate (wsV RX6 300 RX4 yX4_hasProduced wsX4_hasProduced) := goodIn_app (goodIn_of _ (by decide +kernel)) ggX6_allocate_X4_hasProduced
set_option maxRecDepth 20000 in
theorem ggX6_allocate_X6_allocateOneByOne : GoodIn wsX6_allocate wsX6_allocateOneByOne := goodIn_r _ [18, 1, 2, 3, 4, 6, 7, 8, 9, 10, 11, 12, 13, 19, 20, 21, 22, 23, 24, 25, 26, 27, 28, 29, 30, 31, 32, 33, 34, 35, 36, 37, 38, 39, 40, 41, 42, 43, 44, 45, 46, 47, 48, 49, 50, 51] (by decide +kernel) (by decide +kernel)
set_option maxRecDepth 20000 in
theorem gX6_allocate_X6_allocateOneByOne : GoodIn wsX6_allocate (wsV RX6 304 RX6 yX6_allocateOneByOne wsX6_allocateOneByOne) := goodIn_app (goodIn_of _ (by decide +kernel)) ggX6_allocate_X6_allocateOneByOne
theorem dX6_allocate_0 : decode cX6_allocate 0 = .ok (.iconst 0, 1) := by decide +kernel
theorem dX6_allocate_1 : decode cX6_allocate 1 = .ok (.istore_n 2, 1) := by decide +kernel
theorem dX6_allocate_2 : decode cX6_allocate 2 = .ok (.iconst 0, 1) := by decide +kernel
theorem dX6_allocate_3 : decode cX6_allocate 3 = .ok (.istore_n 3, 1) := by decide +kernel
theorem dX6_allocate_4 : decode cX6_allocate 4 = .ok (.iload_n 3, 1) := by decide +kernel
theorem dX6_allocate_5 : decode cX6_allocate 5 = .ok (.aload_n 0, 1) := by decide +kernel
theorem dX6_allocate_6 : decode cX6_allocate 6 = .ok (.getfield 10, 3) := by decide +kernel
theorem dX6_allocate_9 : decode cX6_allocate 9 = .ok (.getfield 87, 3) := by decide +kernel
theorem dX6_allocate_12 : decode cX6_allocate 12 = .ok (.if_icmp .ge 38, 3) := by decide +kernel
theorem dX6_allocate_15 : decode cX6_allocate 15 = .ok (.aload_n 0, 1) := by decide +kernel
theorem dX6_allocate_16 : decode cX6_allocate 16 = .ok (.getfield 10, 3) := by decide +kernel
theorem dX6_allocate_19 : decode cX6_allocate 19 = .ok (.getfield 97, 3) := by decide +kernel
theorem dX6_allocate_22 : decode cX6_allocate 22 = .ok (.iload_n 3, 1) := by decide +kernel
theorem dX6_allocate_23 : decode cX6_allocate 23 = .ok (.aaload, 1) := by decide +kernel
theorem dX6_allocate_24 : decode cX6_allocate 24 = .ok (.invokevirtual 300, 3) := by decide +kernel
theorem dX6_allocate_27 : decode cX6_allocate 27 = .ok (.ifCond .eq 17, 3) := by decide +kernel
theorem dX6_allocate_30 : decode cX6_allocate 30 = .ok (.iload_n 2, 1) := by decide +kernel
theorem dX6_allocate_31 : decode cX6_allocate 31 = .ok (.aload_n 0, 1) := by decide +kernel
theorem dX6_allocate_32 : decode cX6_allocate 32 = .ok (.getfield 21, 3) := by decide +kernel
theorem dX6_allocate_35 : decode cX6_allocate 35 = .ok (.iload_n 3, 1) := by decide +kernel
theorem dX6_allocate_36 : decode cX6_allocate 36 = .ok (.aaload, 1) := by decide +kernel
theorem dX6_allocate_37 : decode cX6_allocate 37 = .ok (.getfield 205, 3) := by decide +kernel
theorem dX6_allocate_40 : decode cX6_allocate 40 = .ok (.iconst 0, 1) := by decide +kernel
theorem dX6_allocate_41 : decode cX6_allocate 41 = .ok (.iaload, 1) := by decide +kernel
theorem dX6_allocate_42 : decode cX6_allocate 42 = .ok (.iadd, 1) := by decide +kernel
theorem dX6_allocate_43 : decode cX6_allocate 43 = .ok (.istore_n 2, 1) := by decide +kernel
theorem dX6_allocate_44 : decode cX6_allocate 44 = .ok (.iinc 3 1, 3) := by decide +kernel
theorem dX6_allocate_47 : decode cX6_allocate 47 = .ok (.goto (-43), 3) := by decide +kernel
theorem dX6_allocate_50 : decode cX6_allocate 50 = .ok (.iload_n 1, 1) := by decide +kernel
theorem dX6_allocate_51 : decode cX6_allocate 51 = .ok (.istore_n 3, 1) := by decide +kernel
theorem dX6_allocate_52 : decode cX6_allocate 52 = .ok (.iconst 0, 1) := by decide +kernel
theorem dX6_allocate_53 : decode cX6_allocate 53 = .ok (.istore 4, 2) := by decide +kernel
theorem dX6_allocate_55 : decode cX6_allocate 55 = .ok (.iload 4, 2) := by decide +kernel
theorem dX6_allocate_57 : decode cX6_allocate 57 = .ok (.aload_n 0, 1) := by decide +kernel
theorem dX6_allocate_58 : decode cX6_allocate 58 = .ok (.getfield 10, 3) := by decide +kernel
theorem dX6_allocate_61 : decode cX6_allocate 61 = .ok (.getfield 87, 3) := by decide +kernel
theorem dX6_allocate_64 : decode cX6_allocate 64 = .ok (.if_icmp .ge 69, 3) := by decide +kernel
theorem dX6_allocate_67 : decode cX6_allocate 67 = .ok (.iload_n 2, 1) := by decide +kernel
theorem dX6_allocate_68 : decode cX6_allocate 68 = .ok (.ifCond .le 65, 3) := by decide +kernel
theorem dX6_allocate_71 : decode cX6_allocate 71 = .ok (.aload_n 0, 1) := by decide +kernel
theorem dX6_allocate_72 : decode cX6_allocate 72 = .ok (.getfield 10, 3) := by decide +kernel
theorem dX6_allocate_75 : decode cX6_allocate 75 = .ok (.getfield 97, 3) := by decide +kernel
theorem dX6_allocate_78 : decode cX6_allocate 78 = .ok (.iload 4, 2) := by decide +kernel
theorem dX6_allocate_80 : decode cX6_allocate 80 = .ok (.aaload, 1) := by decide +kernel
theorem dX6_allocate_81 : decode cX6_allocate 81 = .ok (.invokevirtual 300, 3) := by decide +kernel
theorem dX6_allocate_84 : decode cX6_allocate 84 = .ok (.ifCond .eq 43, 3) := by decide +kernel
theorem dX6_allocate_87 : decode cX6_allocate 87 = .ok (.iload_n 1, 1) := by decide +kernel
theorem dX6_allocate_88 : decode cX6_allocate 88 = .ok (.aload_n 0, 1) := by decide +kernel
theorem dX6_allocate_89 : decode cX6_allocate 89 = .ok (.getfield 21, 3) := by decide +kernel
theorem dX6_allocate_92 : decode cX6_allocate 92 = .ok (.iload 4, 2) := by decide +kernel
theorem dX6_allocate_94 : decode cX6_allocate 94 = .ok (.aaload, 1) := by decide +kernel
theorem dX6_allocate_95 : decode cX6_allocate 95 = .ok (.getfield 205, 3) := by decide +kernel
theorem dX6_allocate_98 : decode cX6_allocate 98 = .ok (.iconst 0, 1) := by decide +kernel
theorem dX6_allocate_99 : decode cX6_allocate 99 = .ok (.iaload, 1) := by decide +kernel
theorem dX6_allocate_100 : decode cX6_allocate 100 = .ok (.imul, 1) := by decide +kernel
theorem dX6_allocate_101 : decode cX6_allocate 101 = .ok (.iload_n 2, 1) := by decide +kernel
theorem dX6_allocate_102 : decode cX6_allocate 102 = .ok (.idiv, 1) := by decide +kernel
theorem dX6_allocate_103 : decode cX6_allocate 103 = .ok (.istore 5, 2) := by decide +kernel
theorem dX6_allocate_105 : decode cX6_allocate 105 = .ok (.aload_n 0, 1) := by decide +kernel
theorem dX6_allocate_106 : decode cX6_allocate 106 = .ok (.getfield 21, 3) := by decide +kernel
theorem dX6_allocate_109 : decode cX6_allocate 109 = .ok (.iload 4, 2) := by decide +kernel
theorem dX6_allocate_111 : decode cX6_allocate 111 = .ok (.aaload, 1) := by decide +kernel
theorem dX6_allocate_112 : decode cX6_allocate 112 = .ok (.dup, 1) := by decide +kernel
theorem dX6_allocate_113 : decode cX6_allocate 113 = .ok (.getfield 214, 3) := by decide +kernel
theorem dX6_allocate_116 : decode cX6_allocate 116 = .ok (.iload 5, 2) := by decide +kernel
theorem dX6_allocate_118 : decode cX6_allocate 118 = .ok (.iadd, 1) := by decide +kernel
theorem dX6_allocate_119 : decode cX6_allocate 119 = .ok (.putfield 214, 3) := by decide +kernel
theorem dX6_allocate_122 : decode cX6_allocate 122 = .ok (.iload_n 3, 1) := by decide +kernel
theorem dX6_allocate_123 : decode cX6_allocate 123 = .ok (.iload 5, 2) := by decide +kernel
theorem dX6_allocate_125 : decode cX6_allocate 125 = .ok (.isub, 1) := by decide +kernel
theorem dX6_allocate_126 : decode cX6_allocate 126 = .ok (.istore_n 3, 1) := by decide +kernel
theorem dX6_allocate_127 : decode cX6_allocate 127 = .ok (.iinc 4 1, 3) := by decide +kernel
theorem dX6_allocate_130 : decode cX6_allocate 130 = .ok (.goto (-75), 3) := by decide +kernel
theorem dX6_allocate_133 : decode cX6_allocate 133 = .ok (.aload_n 0, 1) := by decide +kernel
theorem dX6_allocate_134 : decode cX6_allocate 134 = .ok (.iload_n 3, 1) := by decide +kernel
theorem dX6_allocate_135 : decode cX6_allocate 135 = .ok (.invokevirtual 304, 3) := by decide +kernel
theorem dX6_allocate_138 : decode cX6_allocate 138 = .ok (.return_, 1) := by decide +kernel
set_option maxRecDepth 20000 in
theorem ggX6_allocateOneByOne_X4_hasProduced : GoodIn wsX6_allocateOneByOne wsX4_hasProduced := goodIn_r _ [10, 11, 12, 41, 42, 43, 44, 45] (by decide +kernel) (by decide +kernel)
set_option maxRecDepth 20000 in
theorem gX6_allocateOneByOne_X4_hasProduced : GoodIn wsX6_allocateOneByOne (wsV RX6 300 RX4 yX4_hasProduced wsX4_hasProduced) := goodIn_app (goodIn_of _ (by decide +kernel)) ggX6_allocateOneByOne_X4_hasProduced
theorem dX6_allocateOneByOne_0 : decode cX6_allocateOneByOne 0 = .ok (.iload_n 1, 1) := by decide +kernel
theorem dX6_allocateOneByOne_1 : decode cX6_allocateOneByOne 1 = .ok (.istore_n 2, 1) := by decide +kernel
theorem dX6_allocateOneByOne_2 : decode cX6_allocateOneByOne 2 = .ok (.iconst 0, 1) := by decide +kernel
theorem dX6_allocateOneByOne_3 : decode cX6_allocateOneByOne 3 = .ok (.istore_n 3, 1) := by decide +kernel
theorem dX6_allocateOneByOne_4 : decode cX6_allocateOneByOne 4 = .ok (.iload_n 3, 1) := by decide +kernel
theorem dX6_allocateOneByOne_5 : decode cX6_allocateOneByOne 5 = .ok (.iload_n 1, 1) := by decide +kernel
theorem dX6_allocateOneByOne_6 : decode cX6_allocateOneByOne 6 = .ok (.if_icmp .ge 73, 3) := by decide +kernel
theorem dX6_allocateOneByOne_9 : decode cX6_allocateOneByOne 9 = .ok (.iload_n 2, 1) := by decide +kernel
theorem dX6_allocateOneByOne_10 : decode cX6_allocateOneByOne 10 = .ok (.ifCond .le 69, 3) := by decide +kernel
theorem dX6_allocateOneByOne_13 : decode cX6_allocateOneByOne 13 = .ok (.iconst 0, 1) := by decide +kernel
theorem dX6_allocateOneByOne_14 : decode cX6_allocateOneByOne 14 = .ok (.istore 4, 2) := by decide +kernel
theorem dX6_allocateOneByOne_16 : decode cX6_allocateOneByOne 16 = .ok (.iload 4, 2) := by decide +kernel
theorem dX6_allocateOneByOne_18 : decode cX6_allocateOneByOne 18 = .ok (.aload_n 0, 1) := by decide +kernel
theorem dX6_allocateOneByOne_19 : decode cX6_allocateOneByOne 19 = .ok (.getfield 10, 3) := by decide +kernel
theorem dX6_allocateOneByOne_22 : decode cX6_allocateOneByOne 22 = .ok (.getfield 87, 3) := by decide +kernel
theorem dX6_allocateOneByOne_25 : decode cX6_allocateOneByOne 25 = .ok (.if_icmp .ge 48, 3) := by decide +kernel
theorem dX6_allocateOneByOne_28 : decode cX6_allocateOneByOne 28 = .ok (.iload_n 2, 1) := by decide +kernel
theorem dX6_allocateOneByOne_29 : decode cX6_allocateOneByOne 29 = .ok (.ifCond .le 44, 3) := by decide +kernel
theorem dX6_allocateOneByOne_32 : decode cX6_allocateOneByOne 32 = .ok (.aload_n 0, 1) := by decide +kernel
theorem dX6_allocateOneByOne_33 : decode cX6_allocateOneByOne 33 = .ok (.getfield 10, 3) := by decide +kernel
theorem dX6_allocateOneByOne_36 : decode cX6_allocateOneByOne 36 = .ok (.getfield 97, 3) := by decide +kernel
theorem dX6_allocateOneByOne_39 : decode cX6_allocateOneByOne 39 = .ok (.iload 4, 2) := by decide +kernel
theorem dX6_allocateOneByOne_41 : decode cX6_allocateOneByOne 41 = .ok (.aaload, 1) := by decide +kernel
theorem dX6_allocateOneByOne_42 : decode cX6_allocateOneByOne 42 = .ok (.invokevirtual 300, 3) := by decide +kernel
theorem dX6_allocateOneByOne_45 : decode cX6_allocateOneByOne 45 = .ok (.ifCond .eq 22, 3) := by decide +kernel
theorem dX6_allocateOneByOne_48 : decode cX6_allocateOneByOne 48 = .ok (.aload_n 0, 1) := by decide +kernel
theorem dX6_allocateOneByOne_49 : decode cX6_allocateOneByOne 49 = .ok (.getfield 21, 3) := by decide +kernel
theorem dX6_allocateOneByOne_52 : decode cX6_allocateOneByOne 52 = .ok (.iload 4, 2) := by decide +kernel
theorem dX6_allocateOneByOne_54 : decode cX6_allocateOneByOne 54 = .ok (.aaload, 1) := by decide +kernel
theorem dX6_allocateOneByOne_55 : decode cX6_allocateOneByOne 55 = .ok (.dup, 1) := by decide +kernel
theorem dX6_allocateOneByOne_56 : decode cX6_allocateOneByOne 56 = .ok (.getfield 214, 3) := by decide +kernel
theorem dX6_allocateOneByOne_59 : decode cX6_allocateOneByOne 59 = .ok (.iconst 1, 1) := by decide +kernel
theorem dX6_allocateOneByOne_60 : decode cX6_allocateOneByOne 60 = .ok (.iadd, 1) := by decide +kernel
theorem dX6_allocateOneByOne_61 : decode cX6_allocateOneByOne 61 = .ok (.putfield 214, 3) := by decide +kernel
theorem dX6_allocateOneByOne_64 : decode cX6_allocateOneByOne 64 = .ok (.iinc 2 (-1), 3) := by decide +kernel
theorem dX6_allocateOneByOne_67 : decode cX6_allocateOneByOne 67 = .ok (.iinc 4 1, 3) := by decide +kernel
theorem dX6_allocateOneByOne_70 : decode cX6_allocateOneByOne 70 = .ok (.goto (-54), 3) := by decide +kernel
theorem dX6_allocateOneByOne_73 : decode cX6_allocateOneByOne 73 = .ok (.iinc 3 1, 3) := by decide +kernel
theorem dX6_allocateOneByOne_76 : decode cX6_allocateOneByOne 76 = .ok (.goto (-72), 3) := by decide +kernel
theorem dX6_allocateOneByOne_79 : decode cX6_allocateOneByOne 79 = .ok (.return_, 1) := by decide +kernel
theorem dX6_keepTests_0 : decode cX6_keepTests 0 = .ok (.iconst 0, 1) := by decide +kernel
theorem dX6_keepTests_1 : decode cX6_keepTests 1 = .ok (.istore_n 1, 1) := by decide +kernel
theorem dX6_keepTests_2 : decode cX6_keepTests 2 = .ok (.iload_n 1, 1) := by decide +kernel
theorem dX6_keepTests_3 : decode cX6_keepTests 3 = .ok (.aload_n 0, 1) := by decide +kernel
theorem dX6_keepTests_4 : decode cX6_keepTests 4 = .ok (.getfield 10, 3) := by decide +kernel
theorem dX6_keepTests_7 : decode cX6_keepTests 7 = .ok (.getfield 87, 3) := by decide +kernel
theorem dX6_keepTests_10 : decode cX6_keepTests 10 = .ok (.if_icmp .ge 58, 3) := by decide +kernel
theorem dX6_keepTests_13 : decode cX6_keepTests 13 = .ok (.aload_n 0, 1) := by decide +kernel
theorem dX6_keepTests_14 : decode cX6_keepTests 14 = .ok (.getfield 21, 3) := by decide +kernel
theorem dX6_keepTests_17 : decode cX6_keepTests 17 = .ok (.iload_n 1, 1) := by decide +kernel
theorem dX6_keepTests_18 : decode cX6_keepTests 18 = .ok (.aaload, 1) := by decide +kernel
theorem dX6_keepTests_19 : decode cX6_keepTests 19 = .ok (.getfield 121, 3) := by decide +kernel
theorem dX6_keepTests_22 : decode cX6_keepTests 22 = .ok (.ifCond .eq 40, 3) := by decide +kernel
theorem dX6_keepTests_25 : decode cX6_keepTests 25 = .ok (.aload_n 0, 1) := by decide +kernel
theorem dX6_keepTests_26 : decode cX6_keepTests 26 = .ok (.getfield 10, 3) := by decide +kernel
theorem dX6_keepTests_29 : decode cX6_keepTests 29 = .ok (.getfield 97, 3) := by decide +kernel
theorem dX6_keepTests_32 : decode cX6_keepTests 32 = .ok (.iload_n 1, 1) := by decide +kernel
theorem dX6_keepTests_33 : decode cX6_keepTests 33 = .ok (.aaload, 1) := by decide +kernel
theorem dX6_keepTests_34 : decode cX6_keepTests 34 = .ok (.getfield 208, 3) := by decide +kernel
theorem dX6_keepTests_37 : decode cX6_keepTests 37 = .ok (.iconst 0, 1) := by decide +kernel
theorem dX6_keepTests_38 : decode cX6_keepTests 38 = .ok (.aload_n 0, 1) := by decide +kernel
theorem dX6_keepTests_39 : decode cX6_keepTests 39 = .ok (.getfield 21, 3) := by decide +kernel
theorem dX6_keepTests_42 : decode cX6_keepTests 42 = .ok (.iload_n 1, 1) := by decide +kernel
theorem dX6_keepTests_43 : decode cX6_keepTests 43 = .ok (.aaload, 1) := by decide +kernel
theorem dX6_keepTests_44 : decode cX6_keepTests 44 = .ok (.getfield 205, 3) := by decide +kernel
theorem dX6_keepTests_47 : decode cX6_keepTests 47 = .ok (.iconst 0, 1) := by decide +kernel
theorem dX6_keepTests_48 : decode cX6_keepTests 48 = .ok (.iconst 3, 1) := by decide +kernel
theorem dX6_keepTests_49 : decode cX6_keepTests 49 = .ok (.invokestatic 307, 3) := by decide +kernel
theorem dX6_keepTests_52 : decode cX6_keepTests 52 = .ok (.aload_n 0, 1) := by decide +kernel
theorem dX6_keepTests_53 : decode cX6_keepTests 53 = .ok (.getfield 21, 3) := by decide +kernel
theorem dX6_keepTests_56 : decode cX6_keepTests 56 = .ok (.iload_n 1, 1) := by decide +kernel
theorem dX6_keepTests_57 : decode cX6_keepTests 57 = .ok (.aaload, 1) := by decide +kernel
theorem dX6_keepTests_58 : decode cX6_keepTests 58 = .ok (.iconst 0, 1) := by decide +kernel
theorem dX6_keepTests_59 : decode cX6_keepTests 59 = .ok (.putfield 121, 3) := by decide +kernel
theorem dX6_keepTests_62 : decode cX6_keepTests 62 = .ok (.iinc 1 1, 3) := by decide +kernel
theorem dX6_keepTests_65 : decode cX6_keepTests 65 = .ok (.goto (-63), 3) := by decide +kernel
theorem dX6_keepTests_68 : decode cX6_keepTests 68 = .ok (.return_, 1) := by decide +kernel
theorem dX6_entitle_0 : decode cX6_entitle 0 = .ok (.iload_n 1, 1) := by decide +kernel
theorem dX6_entitle_1 : decode cX6_entitle 1 = .ok (.istore_n 2, 1) := by decide +kernel
theorem dX6_entitle_2 : decode cX6_entitle 2 = .ok (.iconst 0, 1) := by decide +kernel
theorem dX6_entitle_3 : decode cX6_entitle 3 = .ok (.istore_n 3, 1) := by decide +kernel
theorem dX6_entitle_4 : decode cX6_entitle 4 = .ok (.iload_n 3, 1) := by decide +kernel
theorem dX6_entitle_5 : decode cX6_entitle 5 = .ok (.iconst 3, 1) := by decide +kernel
theorem dX6_entitle_6 : decode cX6_entitle 6 = .ok (.if_icmp .ge 46, 3) := by decide +kernel
theorem dX6_entitle_9 : decode cX6_entitle 9 = .ok (.iload_n 1, 1) := by decide +kernel
theorem dX6_entitle_10 : decode cX6_entitle 10 = .ok (.aload_n 0, 1) := by decide +kernel
theorem dX6_entitle_11 : decode cX6_entitle 11 = .ok (.getfield 27, 3) := by decide +kernel
theorem dX6_entitle_14 : decode cX6_entitle 14 = .ok (.iload_n 3, 1) := by decide +kernel
theorem dX6_entitle_15 : decode cX6_entitle 15 = .ok (.aaload, 1) := by decide +kernel
theorem dX6_entitle_16 : decode cX6_entitle 16 = .ok (.getfield 48, 3) := by decide +kernel
theorem dX6_entitle_19 : decode cX6_entitle 19 = .ok (.imul, 1) := by decide +kernel
theorem dX6_entitle_20 : decode cX6_entitle 20 = .ok (.bipush 100, 2) := by decide +kernel
theorem dX6_entitle_22 : decode cX6_entitle 22 = .ok (.idiv, 1) := by decide +kernel
theorem dX6_entitle_23 : decode cX6_entitle 23 = .ok (.istore 4, 2) := by decide +kernel
theorem dX6_entitle_25 : decode cX6_entitle 25 = .ok (.aload_n 0, 1) := by decide +kernel
theorem dX6_entitle_26 : decode cX6_entitle 26 = .ok (.getfield 27, 3) := by decide +kernel
theorem dX6_entitle_29 : decode cX6_entitle 29 = .ok (.iload_n 3, 1) := by decide +kernel
theorem dX6_entitle_30 : decode cX6_entitle 30 = .ok (.aaload, 1) := by decide +kernel
theorem dX6_entitle_31 : decode cX6_entitle 31 = .ok (.dup, 1) := by decide +kernel
theorem dX6_entitle_32 : decode cX6_entitle 32 = .ok (.getfield 217, 3) := by decide +kernel
theorem dX6_entitle_35 : decode cX6_entitle 35 = .ok (.iload 4, 2) := by decide +kernel
theorem dX6_entitle_37 : decode cX6_entitle 37 = .ok (.iadd, 1) := by decide +kernel
theorem dX6_entitle_38 : decode cX6_entitle 38 = .ok (.putfield 217, 3) := by decide +kernel
theorem dX6_entitle_41 : decode cX6_entitle 41 = .ok (.iload_n 2, 1) := by decide +kernel
theorem dX6_entitle_42 : decode cX6_entitle 42 = .ok (.iload 4, 2) := by decide +kernel
theorem dX6_entitle_44 : decode cX6_entitle 44 = .ok (.isub, 1) := by decide +kernel
theorem dX6_entitle_45 : decode cX6_entitle 45 = .ok (.istore_n 2, 1) := by decide +kernel
theorem dX6_entitle_46 : decode cX6_entitle 46 = .ok (.iinc 3 1, 3) := by decide +kernel
theorem dX6_entitle_49 : decode cX6_entitle 49 = .ok (.goto (-45), 3) := by decide +kernel
theorem dX6_entitle_52 : decode cX6_entitle 52 = .ok (.aload_n 0, 1) := by decide +kernel
theorem dX6_entitle_53 : decode cX6_entitle 53 = .ok (.getfield 27, 3) := by decide +kernel
theorem dX6_entitle_56 : decode cX6_entitle 56 = .ok (.iconst 0, 1) := by decide +kernel
theorem dX6_entitle_57 : decode cX6_entitle 57 = .ok (.aaload, 1) := by decide +kernel
theorem dX6_entitle_58 : decode cX6_entitle 58 = .ok (.dup, 1) := by decide +kernel
theorem dX6_entitle_59 : decode cX6_entitle 59 = .ok (.getfield 217, 3) := by decide +kernel
theorem dX6_entitle_62 : decode cX6_entitle 62 = .ok (.iload_n 2, 1) := by decide +kernel
theorem dX6_entitle_63 : decode cX6_entitle 63 = .ok (.iadd, 1) := by decide +kernel
theorem dX6_entitle_64 : decode cX6_entitle 64 = .ok (.putfield 217, 3) := by decide +kernel
theorem dX6_entitle_67 : decode cX6_entitle 67 = .ok (.return_, 1) := by decide +kernel
set_option maxRecDepth 20000 in
theorem ggX6_reservesOf_X2_take : GoodIn wsX6_reservesOf wsX2_take := goodIn_r _ [12, 13, 14, 15, 16, 17, 18, 19, 20, 21, 22, 23, 24, 25, 26, 27, 28, 29, 30, 31, 32, 33, 34, 35, 36, 37, 38, 39, 40, 41, 42, 145, 146, 147, 148, 149, 150, 151, 152, 153, 154, 155, 156, 162, 163, 164, 165, 157, 158, 159, 160, 161] (by decide +kernel) (by decide +kernel)
set_option maxRecDepth 20000 in
theorem gX6_reservesOf_X2_take : GoodIn wsX6_reservesOf (wsV RX6 237 RX2 yX2_take wsX2_take) := goodIn_app (goodIn_of _ (by decide +kernel)) ggX6_reservesOf_X2_take
set_option maxRecDepth 20000 in
theorem ggX6_reservesOf_X2_passMonths : GoodIn wsX6_reservesOf wsX2_passMonths := goodIn_r _ [46, 47, 48, 49, 11, 50, 15, 14, 51, 52, 53, 54, 55, 56, 57, 58, 59, 21, 60, 61, 62, 63, 64, 37, 65, 66, 67, 68, 69, 70, 13, 71, 72, 73, 74, 75, 76, 77, 78, 79, 23, 80, 81, 82, 27, 83, 29, 84, 85, 86, 87, 30, 88, 89, 90, 91, 16, 22, 92, 93, 94, 95, 96, 97, 98, 99, 100, 101, 102, 103, 104, 105, 106, 107, 108, 109, 110, 111, 112, 113, 114, 115, 116, 117, 118, 119, 120, 121, 122, 123, 124, 125, 126, 127, 128, 129, 130, 131, 132, 133, 32, 33, 145, 146, 147, 148, 149, 150, 151, 152, 153, 154, 155, 156, 157, 158, 159, 160, 161, 162, 163, 164, 165] (by decide +kernel) (by decide +kernel)
set_option maxRecDepth 20000 in
theorem gX6_reservesOf_X2_passMonths : GoodIn wsX6_reservesOf (wsV RX6 241 RX2 yX2_passMonths wsX2_passMonths) := goodIn_app (goodIn_of _ (by decide +kernel)) ggX6_reservesOf_X2_passMonths
theorem dX6_reservesOf_0 : decode cX6_reservesOf 0 = .ok (.aload_n 0, 1) := by decide +kernel
theorem dX6_reservesOf_1 : decode cX6_reservesOf 1 = .ok (.getfield 16, 3) := by decide +kernel
theorem dX6_reservesOf_4 : decode cX6_reservesOf 4 = .ok (.aload_n 0, 1) := by decide +kernel
theorem dX6_reservesOf_5 : decode cX6_reservesOf 5 = .ok (.getfield 10, 3) := by decide +kernel
theorem dX6_reservesOf_8 : decode cX6_reservesOf 8 = .ok (.invokevirtual 237, 3) := by decide +kernel
theorem dX6_reservesOf_11 : decode cX6_reservesOf 11 = .ok (.aload_n 0, 1) := by decide +kernel
theorem dX6_reservesOf_12 : decode cX6_reservesOf 12 = .ok (.getfield 16, 3) := by decide +kernel
theorem dX6_reservesOf_15 : decode cX6_reservesOf 15 = .ok (.ldc_w 313, 3) := by decide +kernel
theorem dX6_reservesOf_18 : decode cX6_reservesOf 18 = .ok (.putfield 139, 3) := by decide +kernel
theorem dX6_reservesOf_21 : decode cX6_reservesOf 21 = .ok (.iload_n 1, 1) := by decide +kernel
theorem dX6_reservesOf_22 : decode cX6_reservesOf 22 = .ok (.istore_n 2, 1) := by decide +kernel
theorem dX6_reservesOf_23 : decode cX6_reservesOf 23 = .ok (.iload_n 2, 1) := by decide +kernel
theorem dX6_reservesOf_24 : decode cX6_reservesOf 24 = .ok (.aload_n 0, 1) := by decide +kernel
theorem dX6_reservesOf_25 : decode cX6_reservesOf 25 = .ok (.getfield 16, 3) := by decide +kernel
theorem dX6_reservesOf_28 : decode cX6_reservesOf 28 = .ok (.getfield 87, 3) := by decide +kernel
theorem dX6_reservesOf_31 : decode cX6_reservesOf 31 = .ok (.if_icmp .ge 22, 3) := by decide +kernel
theorem dX6_reservesOf_34 : decode cX6_reservesOf 34 = .ok (.aload_n 0, 1) := by decide +kernel
theorem dX6_reservesOf_35 : decode cX6_reservesOf 35 = .ok (.getfield 16, 3) := by decide +kernel
theorem dX6_reservesOf_38 : decode cX6_reservesOf 38 = .ok (.getfield 97, 3) := by decide +kernel
theorem dX6_reservesOf_41 : decode cX6_reservesOf 41 = .ok (.iload_n 2, 1) := by decide +kernel
theorem dX6_reservesOf_42 : decode cX6_reservesOf 42 = .ok (.aaload, 1) := by decide +kernel
theorem dX6_reservesOf_43 : decode cX6_reservesOf 43 = .ok (.iconst 0, 1) := by decide +kernel
theorem dX6_reservesOf_44 : decode cX6_reservesOf 44 = .ok (.putfield 113, 3) := by decide +kernel
theorem dX6_reservesOf_47 : decode cX6_reservesOf 47 = .ok (.iinc 2 1, 3) := by decide +kernel
theorem dX6_reservesOf_50 : decode cX6_reservesOf 50 = .ok (.goto (-27), 3) := by decide +kernel
theorem dX6_reservesOf_53 : decode cX6_reservesOf 53 = .ok (.aload_n 0, 1) := by decide +kernel
theorem dX6_reservesOf_54 : decode cX6_reservesOf 54 = .ok (.getfield 16, 3) := by decide +kernel
theorem dX6_reservesOf_57 : decode cX6_reservesOf 57 = .ok (.bipush 12, 2) := by decide +kernel
theorem dX6_reservesOf_59 : decode cX6_reservesOf 59 = .ok (.invokevirtual 241, 3) := by decide +kernel
theorem dX6_reservesOf_62 : decode cX6_reservesOf 62 = .ok (.ireturn, 1) := by decide +kernel
set_option maxRecDepth 20000 in
theorem ggX7_init_X6_init : GoodIn wsX7_init wsX6_init := goodIn_r _ [25, 26, 2, 3, 27, 28, 29, 30, 31, 32, 33, 34, 35, 36, 37, 38, 39, 8, 40, 41, 42, 43, 44, 45, 46, 47, 48, 49, 50, 51, 52, 53, 54, 55, 56, 57, 58, 59, 60, 61, 62, 63, 64, 65, 66, 67, 68, 69, 70, 71, 72, 73, 74, 75, 76, 77, 78, 79, 80, 81, 82, 83, 108, 109, 110, 111, 112, 113, 114, 115, 116, 117, 118, 119, 84, 85, 86, 87, 88, 89, 90, 91, 92, 93, 94, 120, 121, 122, 123, 124, 125, 126, 127, 128, 129, 130, 131, 132, 133, 134, 135, 136, 137, 138, 139, 140, 141, 142, 143, 144, 145] (by decide +kernel) (by decide +kernel)
set_option maxRecDepth 20000 in
theorem gX7_init_X6_init : GoodIn wsX7_init (wsX6_init) := ggX7_init_X6_init
theorem dX7_init_0 : decode cX7_init 0 = .ok (.aload_n 0, 1) := by decide +kernel
theorem dX7_init_1 : decode cX7_init 1 = .ok (.invokespecial 1, 3) := by decide +kernel
theorem dX7_init_4 : decode cX7_init 4 = .ok (.aload_n 0, 1) := by decide +kernel
theorem dX7_init_5 : decode cX7_init 5 = .ok (.new 7, 3) := by decide +kernel
theorem dX7_init_8 : decode cX7_init 8 = .ok (.dup, 1) := by decide +kernel
theorem dX7_init_9 : decode cX7_init 9 = .ok (.invokespecial 9, 3) := by decide +kernel
theorem dX7_init_12 : decode cX7_init 12 = .ok (.putfield 10, 3) := by decide +kernel
theorem dX7_init_15 : decode cX7_init 15 = .ok (.aload_n 0, 1) := by decide +kernel
theorem dX7_init_16 : decode cX7_init 16 = .ok (.bipush 16, 2) := by decide +kernel
end
section
theorem dX7_init_18 : decode cX7_init 18 = .ok (.newarray .int, 2) := by decide +kernel
theorem dX7_init_20 : decode cX7_init 20 = .ok (.putfield 16, 3) := by decide +kernel
theorem dX7_init_23 : decode cX7_init 23 = .ok (.aload_n 0, 1) := by decide +kernel
theorem dX7_init_24 : decode cX7_init 24 = .ok (.bipush 16, 2) := by decide +kernel
theorem dX7_init_26 : decode cX7_init 26 = .ok (.iconst 3, 1) := by decide +kernel
theorem dX7_init_27 : decode cX7_init 27 = .ok (.multianewarray 20 2, 4) := by decide +kernel
theorem dX7_init_31 : decode cX7_init 31 = .ok (.putfield 22, 3) := by decide +kernel
theorem dX7_init_34 : decode cX7_init 34 = .ok (.aload_n 0, 1) := by decide +kernel
theorem dX7_init_35 : decode cX7_init 35 = .ok (.bipush 16, 2) := by decide +kernel
theorem dX7_init_37 : decode cX7_init 37 = .ok (.iconst 2, 1) := by decide +kernel
theorem dX7_init_38 : decode cX7_init 38 = .ok (.multianewarray 25 2, 4) := by decide +kernel
theorem dX7_init_42 : decode cX7_init 42 = .ok (.putfield 27, 3) := by decide +kernel
theorem dX7_init_45 : decode cX7_init 45 = .ok (.aload_n 0, 1) := by decide +kernel
theorem dX7_init_46 : decode cX7_init 46 = .ok (.iconst 0, 1) := by decide +kernel
theorem dX7_init_47 : decode cX7_init 47 = .ok (.anewarray 30, 3) := by decide +kernel
theorem dX7_init_50 : decode cX7_init 50 = .ok (.putfield 31, 3) := by decide +kernel
theorem dX7_init_53 : decode cX7_init 53 = .ok (.aload_n 0, 1) := by decide +kernel
theorem dX7_init_54 : decode cX7_init 54 = .ok (.iconst 3, 1) := by decide +kernel
theorem dX7_init_55 : decode cX7_init 55 = .ok (.newarray .int, 2) := by decide +kernel
theorem dX7_init_57 : decode cX7_init 57 = .ok (.dup, 1) := by decide +kernel
theorem dX7_init_58 : decode cX7_init 58 = .ok (.iconst 0, 1) := by decide +kernel
theorem dX7_init_59 : decode cX7_init 59 = .ok (.bipush 40, 2) := by decide +kernel
theorem dX7_init_61 : decode cX7_init 61 = .ok (.iastore, 1) := by decide +kernel
theorem dX7_init_62 : decode cX7_init 62 = .ok (.dup, 1) := by decide +kernel
theorem dX7_init_63 : decode cX7_init 63 = .ok (.iconst 1, 1) := by decide +kernel
theorem dX7_init_64 : decode cX7_init 64 = .ok (.bipush 40, 2) := by decide +kernel
theorem dX7_init_66 : decode cX7_init 66 = .ok (.iastore, 1) := by decide +kernel
theorem dX7_init_67 : decode cX7_init 67 = .ok (.dup, 1) := by decide +kernel
theorem dX7_init_68 : decode cX7_init 68 = .ok (.iconst 2, 1) := by decide +kernel
theorem dX7_init_69 : decode cX7_init 69 = .ok (.bipush 40, 2) := by decide +kernel
theorem dX7_init_71 : decode cX7_init 71 = .ok (.iastore, 1) := by decide +kernel
theorem dX7_init_72 : decode cX7_init 72 = .ok (.putfield 34, 3) := by decide +kernel
theorem dX7_init_75 : decode cX7_init 75 = .ok (.aload_n 0, 1) := by decide +kernel
theorem dX7_init_76 : decode cX7_init 76 = .ok (.bipush 10, 2) := by decide +kernel
theorem dX7_init_78 : decode cX7_init 78 = .ok (.putfield 37, 3) := by decide +kernel
theorem dX7_init_81 : decode cX7_init 81 = .ok (.aload_n 0, 1) := by decide +kernel
theorem dX7_init_82 : decode cX7_init 82 = .ok (.sipush 300, 3) := by decide +kernel
theorem dX7_init_85 : decode cX7_init 85 = .ok (.putfield 41, 3) := by decide +kernel
theorem dX7_init_88 : decode cX7_init 88 = .ok (.aload_n 0, 1) := by decide +kernel
theorem dX7_init_89 : decode cX7_init 89 = .ok (.bipush 6, 2) := by decide +kernel
theorem dX7_init_91 : decode cX7_init 91 = .ok (.newarray .int, 2) := by decide +kernel
theorem dX7_init_93 : decode cX7_init 93 = .ok (.putfield 44, 3) := by decide +kernel
theorem dX7_init_96 : decode cX7_init 96 = .ok (.aload_n 0, 1) := by decide +kernel
theorem dX7_init_97 : decode cX7_init 97 = .ok (.aload_n 1, 1) := by decide +kernel
theorem dX7_init_98 : decode cX7_init 98 = .ok (.putfield 47, 3) := by decide +kernel
theorem dX7_init_101 : decode cX7_init 101 = .ok (.aload_n 0, 1) := by decide +kernel
theorem dX7_init_102 : decode cX7_init 102 = .ok (.iload_n 2, 1) := by decide +kernel
theorem dX7_init_103 : decode cX7_init 103 = .ok (.putfield 50, 3) := by decide +kernel
theorem dX7_init_106 : decode cX7_init 106 = .ok (.iconst 0, 1) := by decide +kernel
theorem dX7_init_107 : decode cX7_init 107 = .ok (.istore_n 3, 1) := by decide +kernel
theorem dX7_init_108 : decode cX7_init 108 = .ok (.iload_n 3, 1) := by decide +kernel
theorem dX7_init_109 : decode cX7_init 109 = .ok (.bipush 16, 2) := by decide +kernel
theorem dX7_init_111 : decode cX7_init 111 = .ok (.if_icmp .ge 17, 3) := by decide +kernel
theorem dX7_init_114 : decode cX7_init 114 = .ok (.aload_n 0, 1) := by decide +kernel
theorem dX7_init_115 : decode cX7_init 115 = .ok (.getfield 16, 3) := by decide +kernel
theorem dX7_init_118 : decode cX7_init 118 = .ok (.iload_n 3, 1) := by decide +kernel
theorem dX7_init_119 : decode cX7_init 119 = .ok (.bipush 40, 2) := by decide +kernel
theorem dX7_init_121 : decode cX7_init 121 = .ok (.iastore, 1) := by decide +kernel
theorem dX7_init_122 : decode cX7_init 122 = .ok (.iinc 3 1, 3) := by decide +kernel
theorem dX7_init_125 : decode cX7_init 125 = .ok (.goto (-17), 3) := by decide +kernel
theorem dX7_init_128 : decode cX7_init 128 = .ok (.return_, 1) := by decide +kernel
set_option maxRecDepth 20000 in
theorem ggX7_draw_L_cell : GoodIn wsX7_draw wsL_cell := goodIn_r _ [5, 6] (by decide +kernel) (by decide +kernel)
set_option maxRecDepth 20000 in
theorem gX7_draw_L_cell_n53 : GoodIn wsX7_draw (wsL_cell) := ggX7_draw_L_cell
set_option maxRecDepth 20000 in
theorem ggX7_draw_L_below : GoodIn wsX7_draw wsL_below := goodIn_r _ [8, 9] (by decide +kernel) (by decide +kernel)
set_option maxRecDepth 20000 in
theorem gX7_draw_L_below_n59 : GoodIn wsX7_draw (wsL_below) := ggX7_draw_L_below
theorem dX7_draw_0 : decode cX7_draw 0 = .ok (.aload_n 0, 1) := by decide +kernel
theorem dX7_draw_1 : decode cX7_draw 1 = .ok (.getfield 47, 3) := by decide +kernel
theorem dX7_draw_4 : decode cX7_draw 4 = .ok (.aload_n 0, 1) := by decide +kernel
theorem dX7_draw_5 : decode cX7_draw 5 = .ok (.getfield 50, 3) := by decide +kernel
theorem dX7_draw_8 : decode cX7_draw 8 = .ok (.bipush 24, 2) := by decide +kernel
theorem dX7_draw_10 : decode cX7_draw 10 = .ok (.irem, 1) := by decide +kernel
theorem dX7_draw_11 : decode cX7_draw 11 = .ok (.invokestatic 53, 3) := by decide +kernel
theorem dX7_draw_14 : decode cX7_draw 14 = .ok (.aload_n 0, 1) := by decide +kernel
theorem dX7_draw_15 : decode cX7_draw 15 = .ok (.getfield 50, 3) := by decide +kernel
theorem dX7_draw_18 : decode cX7_draw 18 = .ok (.bipush 24, 2) := by decide +kernel
theorem dX7_draw_20 : decode cX7_draw 20 = .ok (.idiv, 1) := by decide +kernel
theorem dX7_draw_21 : decode cX7_draw 21 = .ok (.bipush 8, 2) := by decide +kernel
theorem dX7_draw_23 : decode cX7_draw 23 = .ok (.irem, 1) := by decide +kernel
theorem dX7_draw_24 : decode cX7_draw 24 = .ok (.ishr, 1) := by decide +kernel
theorem dX7_draw_25 : decode cX7_draw 25 = .ok (.sipush 283, 3) := by decide +kernel
theorem dX7_draw_28 : decode cX7_draw 28 = .ok (.aload_n 0, 1) := by decide +kernel
theorem dX7_draw_29 : decode cX7_draw 29 = .ok (.getfield 50, 3) := by decide +kernel
theorem dX7_draw_32 : decode cX7_draw 32 = .ok (.imul, 1) := by decide +kernel
theorem dX7_draw_33 : decode cX7_draw 33 = .ok (.iadd, 1) := by decide +kernel
theorem dX7_draw_34 : decode cX7_draw 34 = .ok (.iload_n 1, 1) := by decide +kernel
theorem dX7_draw_35 : decode cX7_draw 35 = .ok (.invokestatic 59, 3) := by decide +kernel
theorem dX7_draw_38 : decode cX7_draw 38 = .ok (.istore_n 2, 1) := by decide +kernel
theorem dX7_draw_39 : decode cX7_draw 39 = .ok (.aload_n 0, 1) := by decide +kernel
theorem dX7_draw_40 : decode cX7_draw 40 = .ok (.dup, 1) := by decide +kernel
theorem dX7_draw_41 : decode cX7_draw 41 = .ok (.getfield 50, 3) := by decide +kernel
theorem dX7_draw_44 : decode cX7_draw 44 = .ok (.iconst 1, 1) := by decide +kernel
theorem dX7_draw_45 : decode cX7_draw 45 = .ok (.iadd, 1) := by decide +kernel
theorem dX7_draw_46 : decode cX7_draw 46 = .ok (.putfield 50, 3) := by decide +kernel
theorem dX7_draw_49 : decode cX7_draw 49 = .ok (.iload_n 2, 1) := by decide +kernel
theorem dX7_draw_50 : decode cX7_draw 50 = .ok (.ireturn, 1) := by decide +kernel
set_option maxRecDepth 20000 in
theorem ggX7_lay_X6_cell : GoodIn wsX7_lay wsX6_cell := goodIn_ca (goodIn_ca (goodIn_r _ [9, 10, 11, 12, 13, 14, 15, 8, 16, 17, 18, 19, 20, 21, 22, 23, 24, 25, 26, 27, 28, 29, 30, 31, 32, 33, 34, 57, 58, 59, 60, 61, 62, 63, 64, 65, 66, 67, 68, 69, 70, 71, 72, 73, 74, 75, 76, 77, 78, 79, 80, 81, 82, 83] (by decide +kernel) (by decide +kernel)) (goodIn_sub (fun _ h => List.mem_cons_of_mem _ (List.mem_append_left _ (List.mem_append_right _ h))) (by decide +kernel))) (goodIn_sub (fun _ h => List.mem_cons_of_mem _ (List.mem_append_right _ h)) (by decide +kernel))
set_option maxRecDepth 20000 in
theorem gX7_lay_X6_cell : GoodIn wsX7_lay (wsV RX7 63 RX6 yX6_cell wsX6_cell) := goodIn_app (goodIn_of _ (by decide +kernel)) ggX7_lay_X6_cell
set_option maxRecDepth 20000 in
theorem ggX7_lay_X7_pressure : GoodIn wsX7_lay wsX7_pressure := goodIn_r _ [39, 2, 40, 41, 42, 38, 43, 3, 44, 45, 46, 47, 48, 49, 50, 51, 52, 53, 54, 55, 56] (by decide +kernel) (by decide +kernel)
set_option maxRecDepth 20000 in
theorem gX7_lay_X7_pressure : GoodIn wsX7_lay (wsV RX7 66 RX7 yX7_pressure wsX7_pressure) := goodIn_app (goodIn_of _ (by decide +kernel)) ggX7_lay_X7_pressure
theorem dX7_lay_0 : decode cX7_lay 0 = .ok (.iconst 3, 1) := by decide +kernel
theorem dX7_lay_1 : decode cX7_lay 1 = .ok (.newarray .int, 2) := by decide +kernel
theorem dX7_lay_3 : decode cX7_lay 3 = .ok (.dup, 1) := by decide +kernel
theorem dX7_lay_4 : decode cX7_lay 4 = .ok (.iconst 0, 1) := by decide +kernel
theorem dX7_lay_5 : decode cX7_lay 5 = .ok (.iload_n 3, 1) := by decide +kernel
theorem dX7_lay_6 : decode cX7_lay 6 = .ok (.iastore, 1) := by decide +kernel
theorem dX7_lay_7 : decode cX7_lay 7 = .ok (.dup, 1) := by decide +kernel
theorem dX7_lay_8 : decode cX7_lay 8 = .ok (.iconst 1, 1) := by decide +kernel
theorem dX7_lay_9 : decode cX7_lay 9 = .ok (.iload 4, 2) := by decide +kernel
theorem dX7_lay_11 : decode cX7_lay 11 = .ok (.iastore, 1) := by decide +kernel
theorem dX7_lay_12 : decode cX7_lay 12 = .ok (.dup, 1) := by decide +kernel
theorem dX7_lay_13 : decode cX7_lay 13 = .ok (.iconst 2, 1) := by decide +kernel
theorem dX7_lay_14 : decode cX7_lay 14 = .ok (.iload 5, 2) := by decide +kernel
theorem dX7_lay_16 : decode cX7_lay 16 = .ok (.iastore, 1) := by decide +kernel
theorem dX7_lay_17 : decode cX7_lay 17 = .ok (.astore 6, 2) := by decide +kernel
theorem dX7_lay_19 : decode cX7_lay 19 = .ok (.aload_n 0, 1) := by decide +kernel
theorem dX7_lay_20 : decode cX7_lay 20 = .ok (.getfield 16, 3) := by decide +kernel
theorem dX7_lay_23 : decode cX7_lay 23 = .ok (.iload_n 1, 1) := by decide +kernel
theorem dX7_lay_24 : decode cX7_lay 24 = .ok (.iload_n 2, 1) := by decide +kernel
theorem dX7_lay_25 : decode cX7_lay 25 = .ok (.iastore, 1) := by decide +kernel
theorem dX7_lay_26 : decode cX7_lay 26 = .ok (.aload_n 0, 1) := by decide +kernel
theorem dX7_lay_27 : decode cX7_lay 27 = .ok (.getfield 22, 3) := by decide +kernel
theorem dX7_lay_30 : decode cX7_lay 30 = .ok (.iload_n 1, 1) := by decide +kernel
theorem dX7_lay_31 : decode cX7_lay 31 = .ok (.aload 6, 2) := by decide +kernel
theorem dX7_lay_33 : decode cX7_lay 33 = .ok (.aastore, 1) := by decide +kernel
theorem dX7_lay_34 : decode cX7_lay 34 = .ok (.aload_n 0, 1) := by decide +kernel
theorem dX7_lay_35 : decode cX7_lay 35 = .ok (.getfield 10, 3) := by decide +kernel
theorem dX7_lay_38 : decode cX7_lay 38 = .ok (.iload_n 1, 1) := by decide +kernel
theorem dX7_lay_39 : decode cX7_lay 39 = .ok (.iload_n 2, 1) := by decide +kernel
theorem dX7_lay_40 : decode cX7_lay 40 = .ok (.iload_n 3, 1) := by decide +kernel
theorem dX7_lay_41 : decode cX7_lay 41 = .ok (.iload 4, 2) := by decide +kernel
theorem dX7_lay_43 : decode cX7_lay 43 = .ok (.iload 5, 2) := by decide +kernel
theorem dX7_lay_45 : decode cX7_lay 45 = .ok (.invokevirtual 63, 3) := by decide +kernel
theorem dX7_lay_48 : decode cX7_lay 48 = .ok (.aload_n 0, 1) := by decide +kernel
theorem dX7_lay_49 : decode cX7_lay 49 = .ok (.iload_n 1, 1) := by decide +kernel
theorem dX7_lay_50 : decode cX7_lay 50 = .ok (.invokevirtual 66, 3) := by decide +kernel
theorem dX7_lay_53 : decode cX7_lay 53 = .ok (.if_icmp .ne 7, 3) := by decide +kernel
theorem dX7_lay_56 : decode cX7_lay 56 = .ok (.iconst 1, 1) := by decide +kernel
theorem dX7_lay_57 : decode cX7_lay 57 = .ok (.goto 4, 3) := by decide +kernel
theorem dX7_lay_60 : decode cX7_lay 60 = .ok (.iconst 0, 1) := by decide +kernel
theorem dX7_lay_61 : decode cX7_lay 61 = .ok (.ireturn, 1) := by decide +kernel
set_option maxRecDepth 20000 in
theorem ggX7_well_X6_well : GoodIn wsX7_well wsX6_well := goodIn_ca (goodIn_ca (goodIn_ca (goodIn_r _ [13, 14, 15, 16, 17, 18, 19, 20, 21, 22, 12, 23, 24, 25, 26, 27, 28, 29, 30, 44, 45, 46, 47, 48, 49, 50, 51, 52, 53, 54, 55, 56, 57, 58, 59, 60, 61, 62, 63, 64, 65, 66, 67, 68, 69, 70, 71] (by decide +kernel) (by decide +kernel)) (goodIn_sub (fun _ h => List.mem_cons_of_mem _ (List.mem_append_left _ (List.mem_append_left _ (List.mem_append_right _ h)))) (by decide +kernel))) (goodIn_sub (fun _ h => List.mem_cons_of_mem _ (List.mem_append_left _ (List.mem_append_right _ h))) (by decide +kernel))) (goodIn_sub (fun _ h => List.mem_cons_of_mem _ (List.mem_append_right _ h)) (by decide +kernel))
set_option maxRecDepth 20000 in
theorem gX7_well_X6_well : GoodIn wsX7_well (wsV RX7 76 RX6 yX6_well wsX6_well) := goodIn_app (goodIn_of _ (by decide +kernel)) ggX7_well_X6_well
theorem dX7_well_0 : decode cX7_well 0 = .ok (.aload_n 0, 1) := by decide +kernel
theorem dX7_well_1 : decode cX7_well 1 = .ok (.getfield 31, 3) := by decide +kernel
theorem dX7_well_4 : decode cX7_well 4 = .ok (.arraylength, 1) := by decide +kernel
theorem dX7_well_5 : decode cX7_well 5 = .ok (.iconst 1, 1) := by decide +kernel
theorem dX7_well_6 : decode cX7_well 6 = .ok (.iadd, 1) := by decide +kernel
theorem dX7_well_7 : decode cX7_well 7 = .ok (.anewarray 30, 3) := by decide +kernel
theorem dX7_well_10 : decode cX7_well 10 = .ok (.astore_n 3, 1) := by decide +kernel
theorem dX7_well_11 : decode cX7_well 11 = .ok (.aload_n 0, 1) := by decide +kernel
theorem dX7_well_12 : decode cX7_well 12 = .ok (.getfield 31, 3) := by decide +kernel
theorem dX7_well_15 : decode cX7_well 15 = .ok (.iconst 0, 1) := by decide +kernel
theorem dX7_well_16 : decode cX7_well 16 = .ok (.aload_n 3, 1) := by decide +kernel
theorem dX7_well_17 : decode cX7_well 17 = .ok (.iconst 0, 1) := by decide +kernel
theorem dX7_well_18 : decode cX7_well 18 = .ok (.aload_n 0, 1) := by decide +kernel
theorem dX7_well_19 : decode cX7_well 19 = .ok (.getfield 31, 3) := by decide +kernel
theorem dX7_well_22 : decode cX7_well 22 = .ok (.arraylength, 1) := by decide +kernel
theorem dX7_well_23 : decode cX7_well 23 = .ok (.invokestatic 70, 3) := by decide +kernel
theorem dX7_well_26 : decode cX7_well 26 = .ok (.bipush 14, 2) := by decide +kernel
theorem dX7_well_28 : decode cX7_well 28 = .ok (.newarray .int, 2) := by decide +kernel
theorem dX7_well_30 : decode cX7_well 30 = .ok (.dup, 1) := by decide +kernel
theorem dX7_well_31 : decode cX7_well 31 = .ok (.iconst 0, 1) := by decide +kernel
theorem dX7_well_32 : decode cX7_well 32 = .ok (.iload_n 1, 1) := by decide +kernel
theorem dX7_well_33 : decode cX7_well 33 = .ok (.iastore, 1) := by decide +kernel
theorem dX7_well_34 : decode cX7_well 34 = .ok (.dup, 1) := by decide +kernel
theorem dX7_well_35 : decode cX7_well 35 = .ok (.iconst 1, 1) := by decide +kernel
theorem dX7_well_36 : decode cX7_well 36 = .ok (.iload_n 2, 1) := by decide +kernel
theorem dX7_well_37 : decode cX7_well 37 = .ok (.iastore, 1) := by decide +kernel
theorem dX7_well_38 : decode cX7_well 38 = .ok (.dup, 1) := by decide +kernel
theorem dX7_well_39 : decode cX7_well 39 = .ok (.iconst 2, 1) := by decide +kernel
theorem dX7_well_40 : decode cX7_well 40 = .ok (.iconst 0, 1) := by decide +kernel
theorem dX7_well_41 : decode cX7_well 41 = .ok (.iastore, 1) := by decide +kernel
theorem dX7_well_42 : decode cX7_well 42 = .ok (.dup, 1) := by decide +kernel
theorem dX7_well_43 : decode cX7_well 43 = .ok (.iconst 3, 1) := by decide +kernel
theorem dX7_well_44 : decode cX7_well 44 = .ok (.iconst 5, 1) := by decide +kernel
theorem dX7_well_45 : decode cX7_well 45 = .ok (.iastore, 1) := by decide +kernel
theorem dX7_well_46 : decode cX7_well 46 = .ok (.dup, 1) := by decide +kernel
theorem dX7_well_47 : decode cX7_well 47 = .ok (.iconst 4, 1) := by decide +kernel
theorem dX7_well_48 : decode cX7_well 48 = .ok (.iconst 0, 1) := by decide +kernel
theorem dX7_well_49 : decode cX7_well 49 = .ok (.iastore, 1) := by decide +kernel
theorem dX7_well_50 : decode cX7_well 50 = .ok (.dup, 1) := by decide +kernel
theorem dX7_well_51 : decode cX7_well 51 = .ok (.iconst 5, 1) := by decide +kernel
theorem dX7_well_52 : decode cX7_well 52 = .ok (.iconst 0, 1) := by decide +kernel
theorem dX7_well_53 : decode cX7_well 53 = .ok (.iastore, 1) := by decide +kernel
theorem dX7_well_54 : decode cX7_well 54 = .ok (.dup, 1) := by decide +kernel
theorem dX7_well_55 : decode cX7_well 55 = .ok (.bipush 6, 2) := by decide +kernel
theorem dX7_well_57 : decode cX7_well 57 = .ok (.iconst 0, 1) := by decide +kernel
theorem dX7_well_58 : decode cX7_well 58 = .ok (.iastore, 1) := by decide +kernel
theorem dX7_well_59 : decode cX7_well 59 = .ok (.dup, 1) := by decide +kernel
theorem dX7_well_60 : decode cX7_well 60 = .ok (.bipush 7, 2) := by decide +kernel
theorem dX7_well_62 : decode cX7_well 62 = .ok (.iconst 0, 1) := by decide +kernel
theorem dX7_well_63 : decode cX7_well 63 = .ok (.iastore, 1) := by decide +kernel
theorem dX7_well_64 : decode cX7_well 64 = .ok (.dup, 1) := by decide +kernel
theorem dX7_well_65 : decode cX7_well 65 = .ok (.bipush 8, 2) := by decide +kernel
theorem dX7_well_67 : decode cX7_well 67 = .ok (.iconst 0, 1) := by decide +kernel
theorem dX7_well_68 : decode cX7_well 68 = .ok (.iastore, 1) := by decide +kernel
theorem dX7_well_69 : decode cX7_well 69 = .ok (.dup, 1) := by decide +kernel
theorem dX7_well_70 : decode cX7_well 70 = .ok (.bipush 9, 2) := by decide +kernel
theorem dX7_well_72 : decode cX7_well 72 = .ok (.iconst 0, 1) := by decide +kernel
theorem dX7_well_73 : decode cX7_well 73 = .ok (.iastore, 1) := by decide +kernel
theorem dX7_well_74 : decode cX7_well 74 = .ok (.dup, 1) := by decide +kernel
theorem dX7_well_75 : decode cX7_well 75 = .ok (.bipush 10, 2) := by decide +kernel
theorem dX7_well_77 : decode cX7_well 77 = .ok (.iconst 0, 1) := by decide +kernel
theorem dX7_well_78 : decode cX7_well 78 = .ok (.iastore, 1) := by decide +kernel
theorem dX7_well_79 : decode cX7_well 79 = .ok (.dup, 1) := by decide +kernel
theorem dX7_well_80 : decode cX7_well 80 = .ok (.bipush 11, 2) := by decide +kernel
theorem dX7_well_82 : decode cX7_well 82 = .ok (.iconst 0, 1) := by decide +kernel
theorem dX7_well_83 : decode cX7_well 83 = .ok (.iastore, 1) := by decide +kernel
theorem dX7_well_84 : decode cX7_well 84 = .ok (.dup, 1) := by decide +kernel
theorem dX7_well_85 : decode cX7_well 85 = .ok (.bipush 12, 2) := by decide +kernel
theorem dX7_well_87 : decode cX7_well 87 = .ok (.iconst 0, 1) := by decide +kernel
theorem dX7_well_88 : decode cX7_well 88 = .ok (.iastore, 1) := by decide +kernel
theorem dX7_well_89 : decode cX7_well 89 = .ok (.dup, 1) := by decide +kernel
theorem dX7_well_90 : decode cX7_well 90 = .ok (.bipush 13, 2) := by decide +kernel
theorem dX7_well_92 : decode cX7_well 92 = .ok (.iconst 0, 1) := by decide +kernel
theorem dX7_well_93 : decode cX7_well 93 = .ok (.iastore, 1) := by decide +kernel
theorem dX7_well_94 : decode cX7_well 94 = .ok (.astore 4, 2) := by decide +kernel
theorem dX7_well_96 : decode cX7_well 96 = .ok (.aload_n 3, 1) := by decide +kernel
theorem dX7_well_97 : decode cX7_well 97 = .ok (.aload_n 0, 1) := by decide +kernel
theorem dX7_well_98 : decode cX7_well 98 = .ok (.getfield 31, 3) := by decide +kernel
theorem dX7_well_101 : decode cX7_well 101 = .ok (.arraylength, 1) := by decide +kernel
theorem dX7_well_102 : decode cX7_well 102 = .ok (.aload 4, 2) := by decide +kernel
theorem dX7_well_104 : decode cX7_well 104 = .ok (.aastore, 1) := by decide +kernel
theorem dX7_well_105 : decode cX7_well 105 = .ok (.aload_n 0, 1) := by decide +kernel
theorem dX7_well_106 : decode cX7_well 106 = .ok (.aload_n 3, 1) := by decide +kernel
theorem dX7_well_107 : decode cX7_well 107 = .ok (.putfield 31, 3) := by decide +kernel
theorem dX7_well_110 : decode cX7_well 110 = .ok (.aload_n 0, 1) := by decide +kernel
theorem dX7_well_111 : decode cX7_well 111 = .ok (.getfield 10, 3) := by decide +kernel
theorem dX7_well_114 : decode cX7_well 114 = .ok (.iload_n 1, 1) := by decide +kernel
theorem dX7_well_115 : decode cX7_well 115 = .ok (.iload_n 2, 1) := by decide +kernel
theorem dX7_well_116 : decode cX7_well 116 = .ok (.invokevirtual 76, 3) := by decide +kernel
theorem dX7_well_119 : decode cX7_well 119 = .ok (.aload_n 0, 1) := by decide +kernel
theorem dX7_well_120 : decode cX7_well 120 = .ok (.getfield 31, 3) := by decide +kernel
theorem dX7_well_123 : decode cX7_well 123 = .ok (.arraylength, 1) := by decide +kernel
theorem dX7_well_124 : decode cX7_well 124 = .ok (.iconst 1, 1) := by decide +kernel
theorem dX7_well_125 : decode cX7_well 125 = .ok (.isub, 1) := by decide +kernel
theorem dX7_well_126 : decode cX7_well 126 = .ok (.if_icmp .ne 7, 3) := by decide +kernel
theorem dX7_well_129 : decode cX7_well 129 = .ok (.iconst 1, 1) := by decide +kernel
theorem dX7_well_130 : decode cX7_well 130 = .ok (.goto 4, 3) := by decide +kernel
theorem dX7_well_133 : decode cX7_well 133 = .ok (.iconst 0, 1) := by decide +kernel
theorem dX7_well_134 : decode cX7_well 134 = .ok (.ireturn, 1) := by decide +kernel
set_option maxRecDepth 20000 in
theorem ggX7_choke_X6_choke : GoodIn wsX7_choke wsX6_choke := goodIn_ca (goodIn_ca (goodIn_ca (goodIn_r _ [7, 8, 9, 10, 11, 12, 13, 6, 14, 15, 16, 17, 18, 19, 20, 21, 22, 23, 24, 25, 26, 27, 28, 29, 43, 44, 45, 46, 47, 48, 49, 50, 51, 52, 53, 54, 55, 56, 57, 58, 59, 60, 61, 62, 63, 64, 65, 66, 67, 68, 69, 70, 71, 72, 73, 74, 75] (by decide +kernel) (by decide +kernel)) (goodIn_sub (fun _ h => List.mem_cons_of_mem _ (List.mem_append_left _ (List.mem_append_left _ (List.mem_append_right _ h)))) (by decide +kernel))) (goodIn_sub (fun _ h => List.mem_cons_of_mem _ (List.mem_append_left _ (List.mem_append_right _ h))) (by decide +kernel))) (goodIn_sub (fun _ h => List.mem_cons_of_mem _ (List.mem_append_right _ h)) (by decide +kernel))
set_option maxRecDepth 20000 in
theorem gX7_choke_X6_choke : GoodIn wsX7_choke (wsV RX7 79 RX6 yX6_choke wsX6_choke) := goodIn_app (goodIn_of _ (by decide +kernel)) ggX7_choke_X6_choke
theorem dX7_choke_0 : decode cX7_choke 0 = .ok (.aload_n 0, 1) := by decide +kernel
theorem dX7_choke_1 : decode cX7_choke 1 = .ok (.getfield 31, 3) := by decide +kernel
theorem dX7_choke_4 : decode cX7_choke 4 = .ok (.iload_n 1, 1) := by decide +kernel
theorem dX7_choke_5 : decode cX7_choke 5 = .ok (.aaload, 1) := by decide +kernel
theorem dX7_choke_6 : decode cX7_choke 6 = .ok (.iconst 2, 1) := by decide +kernel
theorem dX7_choke_7 : decode cX7_choke 7 = .ok (.iaload, 1) := by decide +kernel
theorem dX7_choke_8 : decode cX7_choke 8 = .ok (.istore_n 3, 1) := by decide +kernel
theorem dX7_choke_9 : decode cX7_choke 9 = .ok (.aload_n 0, 1) := by decide +kernel
theorem dX7_choke_10 : decode cX7_choke 10 = .ok (.getfield 31, 3) := by decide +kernel
theorem dX7_choke_13 : decode cX7_choke 13 = .ok (.iload_n 1, 1) := by decide +kernel
theorem dX7_choke_14 : decode cX7_choke 14 = .ok (.aaload, 1) := by decide +kernel
theorem dX7_choke_15 : decode cX7_choke 15 = .ok (.iconst 2, 1) := by decide +kernel
theorem dX7_choke_16 : decode cX7_choke 16 = .ok (.iload_n 2, 1) := by decide +kernel
theorem dX7_choke_17 : decode cX7_choke 17 = .ok (.iastore, 1) := by decide +kernel
theorem dX7_choke_18 : decode cX7_choke 18 = .ok (.aload_n 0, 1) := by decide +kernel
theorem dX7_choke_19 : decode cX7_choke 19 = .ok (.getfield 10, 3) := by decide +kernel
theorem dX7_choke_22 : decode cX7_choke 22 = .ok (.iload_n 1, 1) := by decide +kernel
theorem dX7_choke_23 : decode cX7_choke 23 = .ok (.iload_n 2, 1) := by decide +kernel
theorem dX7_choke_24 : decode cX7_choke 24 = .ok (.invokevirtual 79, 3) := by decide +kernel
theorem dX7_choke_27 : decode cX7_choke 27 = .ok (.iload_n 3, 1) := by decide +kernel
theorem dX7_choke_28 : decode cX7_choke 28 = .ok (.if_icmp .ne 7, 3) := by decide +kernel
theorem dX7_choke_31 : decode cX7_choke 31 = .ok (.iconst 1, 1) := by decide +kernel
theorem dX7_choke_32 : decode cX7_choke 32 = .ok (.goto 4, 3) := by decide +kernel
theorem dX7_choke_35 : decode cX7_choke 35 = .ok (.iconst 0, 1) := by decide +kernel
theorem dX7_choke_36 : decode cX7_choke 36 = .ok (.ireturn, 1) := by decide +kernel
set_option maxRecDepth 20000 in
theorem ggX7_fault_X6_fault : GoodIn wsX7_fault wsX6_fault := goodIn_ca (goodIn_r _ [7, 8, 9, 10, 11, 6, 12, 13, 14, 15, 16, 17, 18, 19, 20, 21, 22, 23, 24, 25, 26, 27, 28, 29, 30, 31, 45, 46, 47, 48, 49, 50, 51, 52, 53, 54, 55, 56, 57, 58, 59, 60, 61, 62, 63, 64, 65, 66, 67, 68, 69, 70, 71] (by decide +kernel) (by decide +kernel)) (goodIn_sub (fun _ h => List.mem_cons_of_mem _ (List.mem_append_right _ h)) (by decide +kernel))
set_option maxRecDepth 20000 in
theorem gX7_fault_X6_fault : GoodIn wsX7_fault (wsV RX7 82 RX6 yX6_fault wsX6_fault) := goodIn_app (goodIn_of _ (by decide +kernel)) ggX7_fault_X6_fault
theorem dX7_fault_0 : decode cX7_fault 0 = .ok (.aload_n 0, 1) := by decide +kernel
theorem dX7_fault_1 : decode cX7_fault 1 = .ok (.getfield 27, 3) := by decide +kernel
theorem dX7_fault_4 : decode cX7_fault 4 = .ok (.iload_n 1, 1) := by decide +kernel
theorem dX7_fault_5 : decode cX7_fault 5 = .ok (.aaload, 1) := by decide +kernel
theorem dX7_fault_6 : decode cX7_fault 6 = .ok (.iload_n 2, 1) := by decide +kernel
theorem dX7_fault_7 : decode cX7_fault 7 = .ok (.ifCond .eq 7, 3) := by decide +kernel
theorem dX7_fault_10 : decode cX7_fault 10 = .ok (.iconst 0, 1) := by decide +kernel
theorem dX7_fault_11 : decode cX7_fault 11 = .ok (.goto 4, 3) := by decide +kernel
theorem dX7_fault_14 : decode cX7_fault 14 = .ok (.iconst 1, 1) := by decide +kernel
theorem dX7_fault_15 : decode cX7_fault 15 = .ok (.baload, 1) := by decide +kernel
theorem dX7_fault_16 : decode cX7_fault 16 = .ok (.istore 4, 2) := by decide +kernel
theorem dX7_fault_18 : decode cX7_fault 18 = .ok (.aload_n 0, 1) := by decide +kernel
theorem dX7_fault_19 : decode cX7_fault 19 = .ok (.getfield 27, 3) := by decide +kernel
theorem dX7_fault_22 : decode cX7_fault 22 = .ok (.iload_n 1, 1) := by decide +kernel
theorem dX7_fault_23 : decode cX7_fault 23 = .ok (.aaload, 1) := by decide +kernel
theorem dX7_fault_24 : decode cX7_fault 24 = .ok (.iload_n 2, 1) := by decide +kernel
theorem dX7_fault_25 : decode cX7_fault 25 = .ok (.ifCond .eq 7, 3) := by decide +kernel
theorem dX7_fault_28 : decode cX7_fault 28 = .ok (.iconst 0, 1) := by decide +kernel
theorem dX7_fault_29 : decode cX7_fault 29 = .ok (.goto 4, 3) := by decide +kernel
theorem dX7_fault_32 : decode cX7_fault 32 = .ok (.iconst 1, 1) := by decide +kernel
theorem dX7_fault_33 : decode cX7_fault 33 = .ok (.iload_n 3, 1) := by decide +kernel
theorem dX7_fault_34 : decode cX7_fault 34 = .ok (.bastore, 1) := by decide +kernel
theorem dX7_fault_35 : decode cX7_fault 35 = .ok (.aload_n 0, 1) := by decide +kernel
theorem dX7_fault_36 : decode cX7_fault 36 = .ok (.getfield 10, 3) := by decide +kernel
theorem dX7_fault_39 : decode cX7_fault 39 = .ok (.iload_n 1, 1) := by decide +kernel
theorem dX7_fault_40 : decode cX7_fault 40 = .ok (.iload_n 2, 1) := by decide +kernel
theorem dX7_fault_41 : decode cX7_fault 41 = .ok (.iload_n 3, 1) := by decide +kernel
theorem dX7_fault_42 : decode cX7_fault 42 = .ok (.invokevirtual 82, 3) := by decide +kernel
theorem dX7_fault_45 : decode cX7_fault 45 = .ok (.iload 4, 2) := by decide +kernel
theorem dX7_fault_47 : decode cX7_fault 47 = .ok (.if_icmp .ne 7, 3) := by decide +kernel
theorem dX7_fault_50 : decode cX7_fault 50 = .ok (.iconst 1, 1) := by decide +kernel
theorem dX7_fault_51 : decode cX7_fault 51 = .ok (.goto 4, 3) := by decide +kernel
theorem dX7_fault_54 : decode cX7_fault 54 = .ok (.iconst 0, 1) := by decide +kernel
theorem dX7_fault_55 : decode cX7_fault 55 = .ok (.ireturn, 1) := by decide +kernel
theorem dX7_all_0 : decode cX7_all 0 = .ok (.aload_n 0, 1) := by decide +kernel
theorem dX7_all_1 : decode cX7_all 1 = .ok (.getfield 22, 3) := by decide +kernel
theorem dX7_all_4 : decode cX7_all 4 = .ok (.iload_n 1, 1) := by decide +kernel
theorem dX7_all_5 : decode cX7_all 5 = .ok (.aaload, 1) := by decide +kernel
theorem dX7_all_6 : decode cX7_all 6 = .ok (.iconst 0, 1) := by decide +kernel
theorem dX7_all_7 : decode cX7_all 7 = .ok (.iaload, 1) := by decide +kernel
theorem dX7_all_8 : decode cX7_all 8 = .ok (.aload_n 0, 1) := by decide +kernel
theorem dX7_all_9 : decode cX7_all 9 = .ok (.getfield 22, 3) := by decide +kernel
theorem dX7_all_12 : decode cX7_all 12 = .ok (.iload_n 1, 1) := by decide +kernel
theorem dX7_all_13 : decode cX7_all 13 = .ok (.aaload, 1) := by decide +kernel
theorem dX7_all_14 : decode cX7_all 14 = .ok (.iconst 1, 1) := by decide +kernel
theorem dX7_all_15 : decode cX7_all 15 = .ok (.iaload, 1) := by decide +kernel
theorem dX7_all_16 : decode cX7_all 16 = .ok (.iadd, 1) := by decide +kernel
theorem dX7_all_17 : decode cX7_all 17 = .ok (.aload_n 0, 1) := by decide +kernel
theorem dX7_all_18 : decode cX7_all 18 = .ok (.getfield 22, 3) := by decide +kernel
theorem dX7_all_21 : decode cX7_all 21 = .ok (.iload_n 1, 1) := by decide +kernel
theorem dX7_all_22 : decode cX7_all 22 = .ok (.aaload, 1) := by decide +kernel
theorem dX7_all_23 : decode cX7_all 23 = .ok (.iconst 2, 1) := by decide +kernel
theorem dX7_all_24 : decode cX7_all 24 = .ok (.iaload, 1) := by decide +kernel
theorem dX7_all_25 : decode cX7_all 25 = .ok (.iadd, 1) := by decide +kernel
theorem dX7_all_26 : decode cX7_all 26 = .ok (.ireturn, 1) := by decide +kernel
set_option maxRecDepth 20000 in
theorem ggX7_pressure_X7_all : GoodIn wsX7_pressure wsX7_all := goodIn_r _ [6, 7, 8, 9, 10, 11, 12, 13, 14, 15, 16, 17, 18, 19, 20] (by decide +kernel) (by decide +kernel)
set_option maxRecDepth 20000 in
theorem gX7_pressure_X7_all : GoodIn wsX7_pressure (wsV RX7 86 RX7 yX7_all wsX7_all) := goodIn_app (goodIn_of _ (by decide +kernel)) ggX7_pressure_X7_all
theorem dX7_pressure_0 : decode cX7_pressure 0 = .ok (.bipush 100, 2) := by decide +kernel
theorem dX7_pressure_2 : decode cX7_pressure 2 = .ok (.aload_n 0, 1) := by decide +kernel
theorem dX7_pressure_3 : decode cX7_pressure 3 = .ok (.iload_n 1, 1) := by decide +kernel
theorem dX7_pressure_4 : decode cX7_pressure 4 = .ok (.invokevirtual 86, 3) := by decide +kernel
theorem dX7_pressure_7 : decode cX7_pressure 7 = .ok (.imul, 1) := by decide +kernel
theorem dX7_pressure_8 : decode cX7_pressure 8 = .ok (.aload_n 0, 1) := by decide +kernel
theorem dX7_pressure_9 : decode cX7_pressure 9 = .ok (.getfield 16, 3) := by decide +kernel
theorem dX7_pressure_12 : decode cX7_pressure 12 = .ok (.iload_n 1, 1) := by decide +kernel
theorem dX7_pressure_13 : decode cX7_pressure 13 = .ok (.iaload, 1) := by decide +kernel
theorem dX7_pressure_14 : decode cX7_pressure 14 = .ok (.idiv, 1) := by decide +kernel
theorem dX7_pressure_15 : decode cX7_pressure 15 = .ok (.ireturn, 1) := by decide +kernel
set_option maxRecDepth 20000 in
theorem ggX7_found_X7_draw : GoodIn wsX7_found wsX7_draw := goodIn_r _ [5, 6, 7, 8, 9, 10, 11, 12, 13, 14, 121, 122, 123, 124, 125, 126, 127, 128, 129, 130, 131, 132, 133] (by decide +kernel) (by decide +kernel)
set_option maxRecDepth 20000 in
theorem gX7_found_X7_draw : GoodIn wsX7_found (wsV RX7 123 RX7 yX7_draw wsX7_draw) := goodIn_app (goodIn_of _ (by decide +kernel)) ggX7_found_X7_draw
set_option maxRecDepth 20000 in
theorem ggX7_found_X7_lay : GoodIn wsX7_found wsX7_lay := goodIn_ca (goodIn_ca (goodIn_r _ [18, 19, 20, 21, 22, 23, 24, 25, 26, 27, 28, 29, 30, 31, 32, 33, 34, 35, 36, 37, 38, 39, 40, 41, 42, 43, 44, 45, 46, 47, 48, 49, 50, 51, 52, 53, 54, 55, 4, 56, 57, 58, 59, 60, 121, 122, 123, 124, 125, 126, 127, 128, 129, 130, 131, 132, 133, 134, 135, 136, 137, 138, 139, 140, 141, 142, 143, 144, 145, 146, 147, 148, 149, 150, 151, 152, 153, 154, 155, 156, 157, 158, 159, 160] (by decide +kernel) (by decide +kernel)) (goodIn_sub (fun _ h => List.mem_cons_of_mem _ (List.mem_append_left _ (List.mem_append_left _ (List.mem_append_right _ h)))) (by decide +kernel))) (goodIn_sub (fun _ h => List.mem_cons_of_mem _ (List.mem_append_left _ (List.mem_append_right _ h))) (by decide +kernel))
set_option maxRecDepth 20000 in
theorem gX7_found_X7_lay : GoodIn wsX7_found (wsV RX7 126 RX7 yX7_lay wsX7_lay) := goodIn_app (goodIn_of _ (by decide +kernel)) ggX7_found_X7_lay
set_option maxRecDepth 20000 in
theorem ggX7_found_X7_fault : GoodIn wsX7_found wsX7_fault := goodIn_ca (goodIn_r _ [64, 65, 22, 66, 67, 68, 26, 69, 28, 29, 70, 71, 72, 35, 36, 32, 33, 34, 73, 74, 75, 76, 77, 78, 45, 79, 80, 81, 82, 83, 84, 85, 121, 122, 123, 124, 125, 126, 127, 128, 129, 130, 131, 132, 133, 134, 135, 136, 137, 138, 139, 140, 141, 142, 143, 144, 145, 146, 147, 148, 149, 150, 151, 152, 153, 154, 155, 156, 157, 158, 159, 160] (by decide +kernel) (by decide +kernel)) (goodIn_sub (fun _ h => List.mem_cons_of_mem _ (List.mem_append_left _ (List.mem_append_left _ (List.mem_append_right _ h)))) (by decide +kernel))
set_option maxRecDepth 20000 in
theorem gX7_found_X7_fault : GoodIn wsX7_found (wsV RX7 130 RX7 yX7_fault wsX7_fault) := goodIn_app (goodIn_of _ (by decide +kernel)) ggX7_found_X7_fault
set_option maxRecDepth 20000 in
theorem ggX7_found_X7_well : GoodIn wsX7_found wsX7_well := goodIn_ca (goodIn_ca (goodIn_ca (goodIn_r _ [89, 90, 91, 92, 93, 94, 95, 19, 22, 96, 97, 98, 26, 99, 100, 101, 28, 102, 103, 104, 105, 32, 33, 34, 35, 36, 37, 38, 39, 40, 41, 121, 122, 123, 124, 125, 126, 127, 128, 129, 130, 131, 132, 133, 134, 135, 136, 137, 138, 139, 140, 141, 142, 143, 144, 145, 146, 147, 148, 149, 150, 151, 152, 153, 154, 155, 156, 161, 162, 163, 164, 165] (by decide +kernel) (by decide +kernel)) (goodIn_sub (fun _ h => List.mem_cons_of_mem _ (List.mem_append_right _ h)) (by decide +kernel))) (goodIn_sub (fun _ h => List.mem_cons_of_mem _ (List.mem_append_left _ (List.mem_append_left _ (List.mem_append_right _ h)))) (by decide +kernel))) (goodIn_sub (fun _ h => List.mem_cons_of_mem _ (List.mem_append_left _ (List.mem_append_right _ h))) (by decide +kernel))
set_option maxRecDepth 20000 in
theorem gX7_found_X7_well : GoodIn wsX7_found (wsV RX7 131 RX7 yX7_well wsX7_well) := goodIn_app (goodIn_of _ (by decide +kernel)) ggX7_found_X7_well
set_option maxRecDepth 20000 in
theorem ggX7_found_X7_choke : GoodIn wsX7_found wsX7_choke := goodIn_ca (goodIn_ca (goodIn_ca (goodIn_r _ [109, 90, 22, 110, 111, 112, 26, 113, 28, 102, 103, 114, 32, 33, 34, 35, 36, 37, 38, 39, 40, 41, 115, 116, 117, 118, 100, 101, 119, 120, 121, 122, 123, 124, 125, 126, 127, 128, 129, 130, 131, 132, 133, 134, 135, 136, 137, 138, 139, 140, 141, 142, 143, 144, 145, 146, 147, 148, 149, 150, 151, 152, 153, 154, 155, 156, 161, 162, 163, 164, 165, 166, 167, 168, 169, 170] (by decide +kernel) (by decide +kernel)) (goodIn_sub (fun _ h => List.mem_cons_of_mem _ (List.mem_append_left _ (List.mem_append_left _ (List.mem_append_right _ h)))) (by decide +kernel))) (goodIn_sub (fun _ h => List.mem_cons_of_mem _ (List.mem_append_left _ (List.mem_append_right _ h))) (by decide +kernel))) (goodIn_sub (fun _ h => List.mem_cons_of_mem _ (List.mem_append_right _ h)) (by decide +kernel))
set_option maxRecDepth 20000 in
theorem gX7_found_X7_choke : GoodIn wsX7_found (wsV RX7 134 RX7 yX7_choke wsX7_choke) := goodIn_app (goodIn_of _ (by decide +kernel)) ggX7_found_X7_choke
theorem dX7_found_0 : decode cX7_found 0 = .ok (.iconst 0, 1) := by decide +kernel
theorem dX7_found_1 : decode cX7_found 1 = .ok (.istore_n 2, 1) := by decide +kernel
theorem dX7_found_2 : decode cX7_found 2 = .ok (.iload_n 2, 1) := by decide +kernel
theorem dX7_found_3 : decode cX7_found 3 = .ok (.bipush 16, 2) := by decide +kernel
theorem dX7_found_5 : decode cX7_found 5 = .ok (.if_icmp .ge 54, 3) := by decide +kernel
theorem dX7_found_8 : decode cX7_found 8 = .ok (.aload_n 0, 1) := by decide +kernel
theorem dX7_found_9 : decode cX7_found 9 = .ok (.iconst 3, 1) := by decide +kernel
theorem dX7_found_10 : decode cX7_found 10 = .ok (.invokevirtual 123, 3) := by decide +kernel
theorem dX7_found_13 : decode cX7_found 13 = .ok (.ifCond .le 40, 3) := by decide +kernel
theorem dX7_found_16 : decode cX7_found 16 = .ok (.aload_n 0, 1) := by decide +kernel
theorem dX7_found_17 : decode cX7_found 17 = .ok (.iload_n 2, 1) := by decide +kernel
theorem dX7_found_18 : decode cX7_found 18 = .ok (.bipush 15, 2) := by decide +kernel
theorem dX7_found_20 : decode cX7_found 20 = .ok (.aload_n 0, 1) := by decide +kernel
theorem dX7_found_21 : decode cX7_found 21 = .ok (.bipush 60, 2) := by decide +kernel
theorem dX7_found_23 : decode cX7_found 23 = .ok (.invokevirtual 123, 3) := by decide +kernel
theorem dX7_found_26 : decode cX7_found 26 = .ok (.iadd, 1) := by decide +kernel
theorem dX7_found_27 : decode cX7_found 27 = .ok (.aload_n 0, 1) := by decide +kernel
theorem dX7_found_28 : decode cX7_found 28 = .ok (.bipush 90, 2) := by decide +kernel
theorem dX7_found_30 : decode cX7_found 30 = .ok (.invokevirtual 123, 3) := by decide +kernel
theorem dX7_found_33 : decode cX7_found 33 = .ok (.aload_n 0, 1) := by decide +kernel
theorem dX7_found_34 : decode cX7_found 34 = .ok (.bipush 60, 2) := by decide +kernel
theorem dX7_found_36 : decode cX7_found 36 = .ok (.invokevirtual 123, 3) := by decide +kernel
theorem dX7_found_39 : decode cX7_found 39 = .ok (.aload_n 0, 1) := by decide +kernel
theorem dX7_found_40 : decode cX7_found 40 = .ok (.bipush 40, 2) := by decide +kernel
theorem dX7_found_42 : decode cX7_found 42 = .ok (.invokevirtual 123, 3) := by decide +kernel
theorem dX7_found_45 : decode cX7_found 45 = .ok (.invokevirtual 126, 3) := by decide +kernel
theorem dX7_found_48 : decode cX7_found 48 = .ok (.ifCond .ne 5, 3) := by decide +kernel
theorem dX7_found_51 : decode cX7_found 51 = .ok (.iconst 0, 1) := by decide +kernel
theorem dX7_found_52 : decode cX7_found 52 = .ok (.ireturn, 1) := by decide +kernel
theorem dX7_found_53 : decode cX7_found 53 = .ok (.iinc 2 1, 3) := by decide +kernel
theorem dX7_found_56 : decode cX7_found 56 = .ok (.goto (-54), 3) := by decide +kernel
theorem dX7_found_59 : decode cX7_found 59 = .ok (.iconst 0, 1) := by decide +kernel
theorem dX7_found_60 : decode cX7_found 60 = .ok (.istore_n 2, 1) := by decide +kernel
theorem dX7_found_61 : decode cX7_found 61 = .ok (.iload_n 2, 1) := by decide +kernel
theorem dX7_found_62 : decode cX7_found 62 = .ok (.iconst 5, 1) := by decide +kernel
theorem dX7_found_63 : decode cX7_found 63 = .ok (.if_icmp .ge 72, 3) := by decide +kernel
theorem dX7_found_66 : decode cX7_found 66 = .ok (.aload_n 0, 1) := by decide +kernel
theorem dX7_found_67 : decode cX7_found 67 = .ok (.aload_n 0, 1) := by decide +kernel
theorem dX7_found_68 : decode cX7_found 68 = .ok (.iconst 3, 1) := by decide +kernel
theorem dX7_found_69 : decode cX7_found 69 = .ok (.invokevirtual 123, 3) := by decide +kernel
theorem dX7_found_72 : decode cX7_found 72 = .ok (.iconst 4, 1) := by decide +kernel
theorem dX7_found_73 : decode cX7_found 73 = .ok (.aload_n 0, 1) := by decide +kernel
theorem dX7_found_74 : decode cX7_found 74 = .ok (.iconst 4, 1) := by decide +kernel
theorem dX7_found_75 : decode cX7_found 75 = .ok (.invokevirtual 123, 3) := by decide +kernel
theorem dX7_found_78 : decode cX7_found 78 = .ok (.imul, 1) := by decide +kernel
theorem dX7_found_79 : decode cX7_found 79 = .ok (.iadd, 1) := by decide +kernel
theorem dX7_found_80 : decode cX7_found 80 = .ok (.iconst 1, 1) := by decide +kernel
theorem dX7_found_81 : decode cX7_found 81 = .ok (.aload_n 0, 1) := by decide +kernel
theorem dX7_found_82 : decode cX7_found 82 = .ok (.iconst 3, 1) := by decide +kernel
theorem dX7_found_83 : decode cX7_found 83 = .ok (.invokevirtual 123, 3) := by decide +kernel
theorem dX7_found_86 : decode cX7_found 86 = .ok (.ifCond .le 7, 3) := by decide +kernel
theorem dX7_found_89 : decode cX7_found 89 = .ok (.iconst 1, 1) := by decide +kernel
theorem dX7_found_90 : decode cX7_found 90 = .ok (.goto 4, 3) := by decide +kernel
theorem dX7_found_93 : decode cX7_found 93 = .ok (.iconst 0, 1) := by decide +kernel
theorem dX7_found_94 : decode cX7_found 94 = .ok (.invokevirtual 130, 3) := by decide +kernel
theorem dX7_found_97 : decode cX7_found 97 = .ok (.ifCond .eq 30, 3) := by decide +kernel
theorem dX7_found_100 : decode cX7_found 100 = .ok (.aload_n 0, 1) := by decide +kernel
theorem dX7_found_101 : decode cX7_found 101 = .ok (.aload_n 0, 1) := by decide +kernel
theorem dX7_found_102 : decode cX7_found 102 = .ok (.bipush 12, 2) := by decide +kernel
theorem dX7_found_104 : decode cX7_found 104 = .ok (.invokevirtual 123, 3) := by decide +kernel
theorem dX7_found_107 : decode cX7_found 107 = .ok (.iconst 0, 1) := by decide +kernel
theorem dX7_found_108 : decode cX7_found 108 = .ok (.aload_n 0, 1) := by decide +kernel
theorem dX7_found_109 : decode cX7_found 109 = .ok (.iconst 3, 1) := by decide +kernel
theorem dX7_found_110 : decode cX7_found 110 = .ok (.invokevirtual 123, 3) := by decide +kernel
theorem dX7_found_113 : decode cX7_found 113 = .ok (.ifCond .le 7, 3) := by decide +kernel
theorem dX7_found_116 : decode cX7_found 116 = .ok (.iconst 1, 1) := by decide +kernel
theorem dX7_found_117 : decode cX7_found 117 = .ok (.goto 4, 3) := by decide +kernel
theorem dX7_found_120 : decode cX7_found 120 = .ok (.iconst 0, 1) := by decide +kernel
theorem dX7_found_121 : decode cX7_found 121 = .ok (.invokevirtual 130, 3) := by decide +kernel
theorem dX7_found_124 : decode cX7_found 124 = .ok (.ifCond .ne 5, 3) := by decide +kernel
theorem dX7_found_127 : decode cX7_found 127 = .ok (.iconst 0, 1) := by decide +kernel
theorem dX7_found_128 : decode cX7_found 128 = .ok (.ireturn, 1) := by decide +kernel
theorem dX7_found_129 : decode cX7_found 129 = .ok (.iinc 2 1, 3) := by decide +kernel
theorem dX7_found_132 : decode cX7_found 132 = .ok (.goto (-71), 3) := by decide +kernel
theorem dX7_found_135 : decode cX7_found 135 = .ok (.iconst 0, 1) := by decide +kernel
theorem dX7_found_136 : decode cX7_found 136 = .ok (.istore_n 2, 1) := by decide +kernel
theorem dX7_found_137 : decode cX7_found 137 = .ok (.iload_n 2, 1) := by decide +kernel
theorem dX7_found_138 : decode cX7_found 138 = .ok (.iload_n 1, 1) := by decide +kernel
theorem dX7_found_139 : decode cX7_found 139 = .ok (.if_icmp .ge 68, 3) := by decide +kernel
theorem dX7_found_142 : decode cX7_found 142 = .ok (.aload_n 0, 1) := by decide +kernel
theorem dX7_found_143 : decode cX7_found 143 = .ok (.iload_n 2, 1) := by decide +kernel
theorem dX7_found_144 : decode cX7_found 144 = .ok (.ifCond .ne 7, 3) := by decide +kernel
theorem dX7_found_147 : decode cX7_found 147 = .ok (.iconst 0, 1) := by decide +kernel
theorem dX7_found_148 : decode cX7_found 148 = .ok (.goto 23, 3) := by decide +kernel
theorem dX7_found_151 : decode cX7_found 151 = .ok (.aload_n 0, 1) := by decide +kernel
theorem dX7_found_152 : decode cX7_found 152 = .ok (.iconst 5, 1) := by decide +kernel
theorem dX7_found_153 : decode cX7_found 153 = .ok (.invokevirtual 123, 3) := by decide +kernel
theorem dX7_found_156 : decode cX7_found 156 = .ok (.iconst 3, 1) := by decide +kernel
theorem dX7_found_157 : decode cX7_found 157 = .ok (.if_icmp .ge 7, 3) := by decide +kernel
theorem dX7_found_160 : decode cX7_found 160 = .ok (.iconst 0, 1) := by decide +kernel
theorem dX7_found_161 : decode cX7_found 161 = .ok (.goto 10, 3) := by decide +kernel
theorem dX7_found_164 : decode cX7_found 164 = .ok (.iconst 1, 1) := by decide +kernel
theorem dX7_found_165 : decode cX7_found 165 = .ok (.aload_n 0, 1) := by decide +kernel
theorem dX7_found_166 : decode cX7_found 166 = .ok (.iconst 2, 1) := by decide +kernel
theorem dX7_found_167 : decode cX7_found 167 = .ok (.invokevirtual 123, 3) := by decide +kernel
theorem dX7_found_170 : decode cX7_found 170 = .ok (.iadd, 1) := by decide +kernel
theorem dX7_found_171 : decode cX7_found 171 = .ok (.aload_n 0, 1) := by decide +kernel
theorem dX7_found_172 : decode cX7_found 172 = .ok (.bipush 16, 2) := by decide +kernel
theorem dX7_found_174 : decode cX7_found 174 = .ok (.invokevirtual 123, 3) := by decide +kernel
theorem dX7_found_177 : decode cX7_found 177 = .ok (.invokevirtual 131, 3) := by decide +kernel
theorem dX7_found_180 : decode cX7_found 180 = .ok (.ifCond .eq 19, 3) := by decide +kernel
theorem dX7_found_183 : decode cX7_found 183 = .ok (.aload_n 0, 1) := by decide +kernel
theorem dX7_found_184 : decode cX7_found 184 = .ok (.iload_n 2, 1) := by decide +kernel
theorem dX7_found_185 : decode cX7_found 185 = .ok (.iconst 2, 1) := by decide +kernel
theorem dX7_found_186 : decode cX7_found 186 = .ok (.aload_n 0, 1) := by decide +kernel
theorem dX7_found_187 : decode cX7_found 187 = .ok (.bipush 8, 2) := by decide +kernel
theorem dX7_found_189 : decode cX7_found 189 = .ok (.invokevirtual 123, 3) := by decide +kernel
theorem dX7_found_192 : decode cX7_found 192 = .ok (.iadd, 1) := by decide +kernel
theorem dX7_found_193 : decode cX7_found 193 = .ok (.invokevirtual 134, 3) := by decide +kernel
theorem dX7_found_196 : decode cX7_found 196 = .ok (.ifCond .ne 5, 3) := by decide +kernel
theorem dX7_found_199 : decode cX7_found 199 = .ok (.iconst 0, 1) := by decide +kernel
theorem dX7_found_200 : decode cX7_found 200 = .ok (.ireturn, 1) := by decide +kernel
theorem dX7_found_201 : decode cX7_found 201 = .ok (.iinc 2 1, 3) := by decide +kernel
theorem dX7_found_204 : decode cX7_found 204 = .ok (.goto (-67), 3) := by decide +kernel
theorem dX7_found_207 : decode cX7_found 207 = .ok (.iconst 1, 1) := by decide +kernel
theorem dX7_found_208 : decode cX7_found 208 = .ok (.ireturn, 1) := by decide +kernel
set_option maxRecDepth 20000 in
theorem ggX7_turn_X7_draw : GoodIn wsX7_turn wsX7_draw := goodIn_r _ [9, 10, 11, 12, 13, 14, 15, 16, 17, 18, 102, 103, 104, 105, 106, 107, 108, 109, 110, 111, 112, 113, 114] (by decide +kernel) (by decide +kernel)
set_option maxRecDepth 20000 in
theorem gX7_turn_X7_draw : GoodIn wsX7_turn (wsV RX7 123 RX7 yX7_draw wsX7_draw) := goodIn_app (goodIn_of _ (by decide +kernel)) ggX7_turn_X7_draw
set_option maxRecDepth 20000 in
theorem ggX7_turn_X7_choke : GoodIn wsX7_turn wsX7_choke := goodIn_ca (goodIn_ca (goodIn_ca (goodIn_r _ [22, 1, 2, 23, 24, 25, 26, 27, 28, 29, 30, 31, 32, 33, 34, 35, 36, 37, 38, 39, 40, 41, 42, 43, 44, 45, 46, 47, 48, 49, 102, 103, 104, 105, 106, 107, 108, 109, 110, 111, 112, 113, 114, 115, 116, 117, 118, 119, 120, 121, 122, 123, 124, 125, 126, 127, 128, 129, 130, 131, 132, 133, 134, 135, 136, 137, 138, 139, 140, 141, 142, 143, 144, 145, 146, 147] (by decide +kernel) (by decide +kernel)) (goodIn_sub (fun _ h => List.mem_cons_of_mem _ (List.mem_append_left _ (List.mem_append_left _ (List.mem_append_right _ h)))) (by decide +kernel))) (goodIn_sub (fun _ h => List.mem_cons_of_mem _ (List.mem_append_left _ (List.mem_append_right _ h))) (by decide +kernel))) (goodIn_sub (fun _ h => List.mem_cons_of_mem _ (List.mem_append_right _ h)) (by decide +kernel))
set_option maxRecDepth 20000 in
theorem gX7_turn_X7_choke : GoodIn wsX7_turn (wsV RX7 134 RX7 yX7_choke wsX7_choke) := goodIn_app (goodIn_of _ (by decide +kernel)) ggX7_turn_X7_choke
set_option maxRecDepth 20000 in
theorem ggX7_turn_X6_rank : GoodIn wsX7_turn wsX6_rank := goodIn_ca (goodIn_ca (goodIn_r _ [53, 28, 29, 30, 54, 32, 33, 26, 34, 35, 36, 37, 38, 39, 40, 41, 115, 116, 117, 118, 119, 120, 121, 122, 123, 124, 125, 126, 127, 128, 129, 130, 131, 132, 133, 134, 135, 136, 137, 138, 139, 140, 141, 142] (by decide +kernel) (by decide +kernel)) (goodIn_sub (fun _ h => List.mem_cons_of_mem _ (List.mem_append_left _ (List.mem_append_left _ (List.mem_append_right _ h)))) (by decide +kernel))) (goodIn_sub (fun _ h => List.mem_cons_of_mem _ (List.mem_append_left _ (List.mem_append_right _ h))) (by decide +kernel))
end
section
set_option maxRecDepth 20000 in
theorem gX7_turn_X6_rank : GoodIn wsX7_turn (wsV RX7 136 RX6 yX6_rank wsX6_rank) := goodIn_app (goodIn_of _ (by decide +kernel)) ggX7_turn_X6_rank
set_option maxRecDepth 20000 in
theorem ggX7_turn_X6_capacity : GoodIn wsX7_turn wsX6_capacity := goodIn_ca (goodIn_ca (goodIn_r _ [58, 28, 59, 32, 33, 26, 34, 35, 36, 37, 38, 39, 40, 41, 115, 116, 117, 118, 119, 120, 121, 122, 123, 124, 125, 126, 127, 128, 129, 130, 131, 132, 133, 134, 135, 136, 137] (by decide +kernel) (by decide +kernel)) (goodIn_sub (fun _ h => List.mem_cons_of_mem _ (List.mem_append_left _ (List.mem_append_left _ (List.mem_append_right _ h)))) (by decide +kernel))) (goodIn_sub (fun _ h => List.mem_cons_of_mem _ (List.mem_append_left _ (List.mem_append_right _ h))) (by decide +kernel))
set_option maxRecDepth 20000 in
theorem gX7_turn_X6_capacity : GoodIn wsX7_turn (wsV RX7 139 RX6 yX6_capacity wsX6_capacity) := goodIn_app (goodIn_of _ (by decide +kernel)) ggX7_turn_X6_capacity
set_option maxRecDepth 20000 in
theorem ggX7_turn_X6_permit : GoodIn wsX7_turn wsX6_permit := goodIn_ca (goodIn_r _ [63, 28, 64, 37, 38, 26, 39, 40, 41, 115, 116, 117, 118, 119, 120, 121, 122, 123, 124, 125, 126, 127, 128, 129, 130, 131, 132, 133, 134, 135, 136, 137] (by decide +kernel) (by decide +kernel)) (goodIn_sub (fun _ h => List.mem_cons_of_mem _ (List.mem_append_left _ (List.mem_append_right _ h))) (by decide +kernel))
set_option maxRecDepth 20000 in
theorem gX7_turn_X6_permit : GoodIn wsX7_turn (wsV RX7 142 RX6 yX6_permit wsX6_permit) := goodIn_app (goodIn_of _ (by decide +kernel)) ggX7_turn_X6_permit
set_option maxRecDepth 20000 in
theorem ggX7_turn_X7_fault : GoodIn wsX7_turn wsX7_fault := goodIn_ca (goodIn_r _ [68, 69, 2, 70, 71, 72, 26, 73, 28, 74, 75, 76, 77, 35, 36, 32, 33, 34, 78, 79, 80, 81, 82, 83, 84, 85, 86, 87, 88, 89, 90, 91, 102, 103, 104, 105, 106, 107, 108, 109, 110, 111, 112, 113, 114, 115, 116, 117, 118, 119, 120, 121, 122, 123, 124, 125, 126, 127, 128, 129, 130, 131, 132, 133, 134, 135, 136, 137, 148, 149, 150, 151] (by decide +kernel) (by decide +kernel)) (goodIn_sub (fun _ h => List.mem_cons_of_mem _ (List.mem_append_left _ (List.mem_append_left _ (List.mem_append_right _ h)))) (by decide +kernel))
set_option maxRecDepth 20000 in
theorem gX7_turn_X7_fault : GoodIn wsX7_turn (wsV RX7 130 RX7 yX7_fault wsX7_fault) := goodIn_app (goodIn_of _ (by decide +kernel)) ggX7_turn_X7_fault
set_option maxRecDepth 20000 in
theorem ggX7_turn_X6_plug : GoodIn wsX7_turn wsX6_plug := goodIn_ca (goodIn_ca (goodIn_r _ [95, 28, 29, 30, 31, 48, 49, 32, 33, 26, 34, 35, 36, 42, 43, 44, 45, 46, 47, 115, 116, 117, 118, 119, 120, 121, 122, 123, 124, 125, 126, 127, 128, 129, 130, 131, 132, 133, 134, 135, 136, 137, 138, 139, 140, 141, 142, 143, 144, 145, 146, 147] (by decide +kernel) (by decide +kernel)) (goodIn_sub (fun _ h => List.mem_cons_of_mem _ (List.mem_append_left _ (List.mem_append_left _ (List.mem_append_right _ h)))) (by decide +kernel))) (goodIn_sub (fun _ h => List.mem_cons_of_mem _ (List.mem_append_right _ h)) (by decide +kernel))
set_option maxRecDepth 20000 in
theorem gX7_turn_X6_plug : GoodIn wsX7_turn (wsV RX7 144 RX6 yX6_plug wsX6_plug) := goodIn_app (goodIn_of _ (by decide +kernel)) ggX7_turn_X6_plug
set_option maxRecDepth 20000 in
theorem ggX7_turn_X6_test : GoodIn wsX7_turn wsX6_test := goodIn_ca (goodIn_ca (goodIn_r _ [99, 46, 47, 28, 29, 30, 100, 48, 101, 32, 33, 26, 34, 35, 36, 42, 43, 44, 45, 49, 115, 116, 117, 118, 119, 120, 121, 122, 123, 124, 125, 126, 127, 128, 129, 130, 131, 132, 133, 134, 135, 136, 137, 138, 139, 140, 141, 142, 143, 144, 145, 146, 147] (by decide +kernel) (by decide +kernel)) (goodIn_sub (fun _ h => List.mem_cons_of_mem _ (List.mem_append_right _ h)) (by decide +kernel))) (goodIn_sub (fun _ h => List.mem_cons_of_mem _ (List.mem_append_left _ (List.mem_append_left _ (List.mem_append_right _ h)))) (by decide +kernel))
set_option maxRecDepth 20000 in
theorem gX7_turn_X6_test : GoodIn wsX7_turn (wsV RX7 147 RX6 yX6_test wsX6_test) := goodIn_app (goodIn_of _ (by decide +kernel)) ggX7_turn_X6_test
theorem dX7_turn_0 : decode cX7_turn 0 = .ok (.aload_n 0, 1) := by decide +kernel
theorem dX7_turn_1 : decode cX7_turn 1 = .ok (.aload_n 0, 1) := by decide +kernel
theorem dX7_turn_2 : decode cX7_turn 2 = .ok (.getfield 31, 3) := by decide +kernel
theorem dX7_turn_5 : decode cX7_turn 5 = .ok (.arraylength, 1) := by decide +kernel
theorem dX7_turn_6 : decode cX7_turn 6 = .ok (.invokevirtual 123, 3) := by decide +kernel
theorem dX7_turn_9 : decode cX7_turn 9 = .ok (.istore_n 1, 1) := by decide +kernel
theorem dX7_turn_10 : decode cX7_turn 10 = .ok (.aload_n 0, 1) := by decide +kernel
theorem dX7_turn_11 : decode cX7_turn 11 = .ok (.getfield 31, 3) := by decide +kernel
theorem dX7_turn_14 : decode cX7_turn 14 = .ok (.iload_n 1, 1) := by decide +kernel
theorem dX7_turn_15 : decode cX7_turn 15 = .ok (.aaload, 1) := by decide +kernel
theorem dX7_turn_16 : decode cX7_turn 16 = .ok (.astore_n 2, 1) := by decide +kernel
theorem dX7_turn_17 : decode cX7_turn 17 = .ok (.aload_n 0, 1) := by decide +kernel
theorem dX7_turn_18 : decode cX7_turn 18 = .ok (.bipush 8, 2) := by decide +kernel
theorem dX7_turn_20 : decode cX7_turn 20 = .ok (.invokevirtual 123, 3) := by decide +kernel
theorem dX7_turn_23 : decode cX7_turn 23 = .ok (.tableswitch 314 0 6 #[41, 41, 68, 104, 160, 198, 265], 41) := by decide +kernel
theorem dX7_turn_64 : decode cX7_turn 64 = .ok (.aload_n 2, 1) := by decide +kernel
theorem dX7_turn_65 : decode cX7_turn 65 = .ok (.iconst 4, 1) := by decide +kernel
theorem dX7_turn_66 : decode cX7_turn 66 = .ok (.iaload, 1) := by decide +kernel
theorem dX7_turn_67 : decode cX7_turn 67 = .ok (.iconst 1, 1) := by decide +kernel
theorem dX7_turn_68 : decode cX7_turn 68 = .ok (.if_icmp .eq 17, 3) := by decide +kernel
theorem dX7_turn_71 : decode cX7_turn 71 = .ok (.aload_n 0, 1) := by decide +kernel
theorem dX7_turn_72 : decode cX7_turn 72 = .ok (.iload_n 1, 1) := by decide +kernel
theorem dX7_turn_73 : decode cX7_turn 73 = .ok (.aload_n 0, 1) := by decide +kernel
theorem dX7_turn_74 : decode cX7_turn 74 = .ok (.bipush 10, 2) := by decide +kernel
theorem dX7_turn_76 : decode cX7_turn 76 = .ok (.invokevirtual 123, 3) := by decide +kernel
theorem dX7_turn_79 : decode cX7_turn 79 = .ok (.invokevirtual 134, 3) := by decide +kernel
theorem dX7_turn_82 : decode cX7_turn 82 = .ok (.ifCond .eq 7, 3) := by decide +kernel
theorem dX7_turn_85 : decode cX7_turn 85 = .ok (.iconst 1, 1) := by decide +kernel
theorem dX7_turn_86 : decode cX7_turn 86 = .ok (.goto 4, 3) := by decide +kernel
theorem dX7_turn_89 : decode cX7_turn 89 = .ok (.iconst 0, 1) := by decide +kernel
theorem dX7_turn_90 : decode cX7_turn 90 = .ok (.ireturn, 1) := by decide +kernel
theorem dX7_turn_91 : decode cX7_turn 91 = .ok (.aload_n 2, 1) := by decide +kernel
theorem dX7_turn_92 : decode cX7_turn 92 = .ok (.iconst 3, 1) := by decide +kernel
theorem dX7_turn_93 : decode cX7_turn 93 = .ok (.iaload, 1) := by decide +kernel
theorem dX7_turn_94 : decode cX7_turn 94 = .ok (.istore_n 3, 1) := by decide +kernel
theorem dX7_turn_95 : decode cX7_turn 95 = .ok (.aload_n 2, 1) := by decide +kernel
theorem dX7_turn_96 : decode cX7_turn 96 = .ok (.iconst 3, 1) := by decide +kernel
theorem dX7_turn_97 : decode cX7_turn 97 = .ok (.iconst 1, 1) := by decide +kernel
theorem dX7_turn_98 : decode cX7_turn 98 = .ok (.aload_n 0, 1) := by decide +kernel
theorem dX7_turn_99 : decode cX7_turn 99 = .ok (.bipush 9, 2) := by decide +kernel
theorem dX7_turn_101 : decode cX7_turn 101 = .ok (.invokevirtual 123, 3) := by decide +kernel
theorem dX7_turn_104 : decode cX7_turn 104 = .ok (.iadd, 1) := by decide +kernel
theorem dX7_turn_105 : decode cX7_turn 105 = .ok (.iastore, 1) := by decide +kernel
theorem dX7_turn_106 : decode cX7_turn 106 = .ok (.aload_n 0, 1) := by decide +kernel
theorem dX7_turn_107 : decode cX7_turn 107 = .ok (.getfield 10, 3) := by decide +kernel
theorem dX7_turn_110 : decode cX7_turn 110 = .ok (.iload_n 1, 1) := by decide +kernel
theorem dX7_turn_111 : decode cX7_turn 111 = .ok (.aload_n 2, 1) := by decide +kernel
theorem dX7_turn_112 : decode cX7_turn 112 = .ok (.iconst 3, 1) := by decide +kernel
theorem dX7_turn_113 : decode cX7_turn 113 = .ok (.iaload, 1) := by decide +kernel
theorem dX7_turn_114 : decode cX7_turn 114 = .ok (.invokevirtual 136, 3) := by decide +kernel
theorem dX7_turn_117 : decode cX7_turn 117 = .ok (.iload_n 3, 1) := by decide +kernel
theorem dX7_turn_118 : decode cX7_turn 118 = .ok (.if_icmp .ne 7, 3) := by decide +kernel
theorem dX7_turn_121 : decode cX7_turn 121 = .ok (.iconst 1, 1) := by decide +kernel
theorem dX7_turn_122 : decode cX7_turn 122 = .ok (.goto 4, 3) := by decide +kernel
theorem dX7_turn_125 : decode cX7_turn 125 = .ok (.iconst 0, 1) := by decide +kernel
theorem dX7_turn_126 : decode cX7_turn 126 = .ok (.ireturn, 1) := by decide +kernel
theorem dX7_turn_127 : decode cX7_turn 127 = .ok (.aload_n 0, 1) := by decide +kernel
theorem dX7_turn_128 : decode cX7_turn 128 = .ok (.iconst 3, 1) := by decide +kernel
theorem dX7_turn_129 : decode cX7_turn 129 = .ok (.invokevirtual 123, 3) := by decide +kernel
theorem dX7_turn_132 : decode cX7_turn 132 = .ok (.istore 4, 2) := by decide +kernel
theorem dX7_turn_134 : decode cX7_turn 134 = .ok (.aload_n 0, 1) := by decide +kernel
theorem dX7_turn_135 : decode cX7_turn 135 = .ok (.getfield 34, 3) := by decide +kernel
theorem dX7_turn_138 : decode cX7_turn 138 = .ok (.iload 4, 2) := by decide +kernel
theorem dX7_turn_140 : decode cX7_turn 140 = .ok (.iaload, 1) := by decide +kernel
theorem dX7_turn_141 : decode cX7_turn 141 = .ok (.istore 5, 2) := by decide +kernel
theorem dX7_turn_143 : decode cX7_turn 143 = .ok (.aload_n 0, 1) := by decide +kernel
theorem dX7_turn_144 : decode cX7_turn 144 = .ok (.getfield 34, 3) := by decide +kernel
theorem dX7_turn_147 : decode cX7_turn 147 = .ok (.iload 4, 2) := by decide +kernel
theorem dX7_turn_149 : decode cX7_turn 149 = .ok (.aload_n 0, 1) := by decide +kernel
theorem dX7_turn_150 : decode cX7_turn 150 = .ok (.bipush 60, 2) := by decide +kernel
theorem dX7_turn_152 : decode cX7_turn 152 = .ok (.invokevirtual 123, 3) := by decide +kernel
theorem dX7_turn_155 : decode cX7_turn 155 = .ok (.iastore, 1) := by decide +kernel
theorem dX7_turn_156 : decode cX7_turn 156 = .ok (.aload_n 0, 1) := by decide +kernel
theorem dX7_turn_157 : decode cX7_turn 157 = .ok (.getfield 10, 3) := by decide +kernel
theorem dX7_turn_160 : decode cX7_turn 160 = .ok (.iload 4, 2) := by decide +kernel
theorem dX7_turn_162 : decode cX7_turn 162 = .ok (.aload_n 0, 1) := by decide +kernel
theorem dX7_turn_163 : decode cX7_turn 163 = .ok (.getfield 34, 3) := by decide +kernel
theorem dX7_turn_166 : decode cX7_turn 166 = .ok (.iload 4, 2) := by decide +kernel
theorem dX7_turn_168 : decode cX7_turn 168 = .ok (.iaload, 1) := by decide +kernel
theorem dX7_turn_169 : decode cX7_turn 169 = .ok (.invokevirtual 139, 3) := by decide +kernel
theorem dX7_turn_172 : decode cX7_turn 172 = .ok (.iload 5, 2) := by decide +kernel
theorem dX7_turn_174 : decode cX7_turn 174 = .ok (.if_icmp .ne 7, 3) := by decide +kernel
theorem dX7_turn_177 : decode cX7_turn 177 = .ok (.iconst 1, 1) := by decide +kernel
theorem dX7_turn_178 : decode cX7_turn 178 = .ok (.goto 4, 3) := by decide +kernel
theorem dX7_turn_181 : decode cX7_turn 181 = .ok (.iconst 0, 1) := by decide +kernel
theorem dX7_turn_182 : decode cX7_turn 182 = .ok (.ireturn, 1) := by decide +kernel
theorem dX7_turn_183 : decode cX7_turn 183 = .ok (.aload_n 0, 1) := by decide +kernel
theorem dX7_turn_184 : decode cX7_turn 184 = .ok (.getfield 37, 3) := by decide +kernel
theorem dX7_turn_187 : decode cX7_turn 187 = .ok (.istore 6, 2) := by decide +kernel
theorem dX7_turn_189 : decode cX7_turn 189 = .ok (.aload_n 0, 1) := by decide +kernel
theorem dX7_turn_190 : decode cX7_turn 190 = .ok (.aload_n 0, 1) := by decide +kernel
theorem dX7_turn_191 : decode cX7_turn 191 = .ok (.bipush 30, 2) := by decide +kernel
theorem dX7_turn_193 : decode cX7_turn 193 = .ok (.invokevirtual 123, 3) := by decide +kernel
theorem dX7_turn_196 : decode cX7_turn 196 = .ok (.putfield 37, 3) := by decide +kernel
theorem dX7_turn_199 : decode cX7_turn 199 = .ok (.aload_n 0, 1) := by decide +kernel
theorem dX7_turn_200 : decode cX7_turn 200 = .ok (.getfield 10, 3) := by decide +kernel
theorem dX7_turn_203 : decode cX7_turn 203 = .ok (.aload_n 0, 1) := by decide +kernel
theorem dX7_turn_204 : decode cX7_turn 204 = .ok (.getfield 37, 3) := by decide +kernel
theorem dX7_turn_207 : decode cX7_turn 207 = .ok (.invokevirtual 142, 3) := by decide +kernel
theorem dX7_turn_210 : decode cX7_turn 210 = .ok (.iload 6, 2) := by decide +kernel
theorem dX7_turn_212 : decode cX7_turn 212 = .ok (.if_icmp .ne 7, 3) := by decide +kernel
theorem dX7_turn_215 : decode cX7_turn 215 = .ok (.iconst 1, 1) := by decide +kernel
theorem dX7_turn_216 : decode cX7_turn 216 = .ok (.goto 4, 3) := by decide +kernel
theorem dX7_turn_219 : decode cX7_turn 219 = .ok (.iconst 0, 1) := by decide +kernel
theorem dX7_turn_220 : decode cX7_turn 220 = .ok (.ireturn, 1) := by decide +kernel
theorem dX7_turn_221 : decode cX7_turn 221 = .ok (.aload_n 0, 1) := by decide +kernel
theorem dX7_turn_222 : decode cX7_turn 222 = .ok (.aload_n 0, 1) := by decide +kernel
theorem dX7_turn_223 : decode cX7_turn 223 = .ok (.iconst 3, 1) := by decide +kernel
theorem dX7_turn_224 : decode cX7_turn 224 = .ok (.invokevirtual 123, 3) := by decide +kernel
theorem dX7_turn_227 : decode cX7_turn 227 = .ok (.iconst 4, 1) := by decide +kernel
theorem dX7_turn_228 : decode cX7_turn 228 = .ok (.aload_n 0, 1) := by decide +kernel
theorem dX7_turn_229 : decode cX7_turn 229 = .ok (.iconst 4, 1) := by decide +kernel
theorem dX7_turn_230 : decode cX7_turn 230 = .ok (.invokevirtual 123, 3) := by decide +kernel
theorem dX7_turn_233 : decode cX7_turn 233 = .ok (.imul, 1) := by decide +kernel
theorem dX7_turn_234 : decode cX7_turn 234 = .ok (.iadd, 1) := by decide +kernel
theorem dX7_turn_235 : decode cX7_turn 235 = .ok (.iconst 1, 1) := by decide +kernel
theorem dX7_turn_236 : decode cX7_turn 236 = .ok (.aload_n 0, 1) := by decide +kernel
theorem dX7_turn_237 : decode cX7_turn 237 = .ok (.iconst 2, 1) := by decide +kernel
theorem dX7_turn_238 : decode cX7_turn 238 = .ok (.invokevirtual 123, 3) := by decide +kernel
theorem dX7_turn_241 : decode cX7_turn 241 = .ok (.ifCond .ne 7, 3) := by decide +kernel
theorem dX7_turn_244 : decode cX7_turn 244 = .ok (.iconst 1, 1) := by decide +kernel
theorem dX7_turn_245 : decode cX7_turn 245 = .ok (.goto 4, 3) := by decide +kernel
theorem dX7_turn_248 : decode cX7_turn 248 = .ok (.iconst 0, 1) := by decide +kernel
theorem dX7_turn_249 : decode cX7_turn 249 = .ok (.invokevirtual 130, 3) := by decide +kernel
theorem dX7_turn_252 : decode cX7_turn 252 = .ok (.ifCond .eq 34, 3) := by decide +kernel
theorem dX7_turn_255 : decode cX7_turn 255 = .ok (.aload_n 0, 1) := by decide +kernel
theorem dX7_turn_256 : decode cX7_turn 256 = .ok (.aload_n 0, 1) := by decide +kernel
theorem dX7_turn_257 : decode cX7_turn 257 = .ok (.bipush 12, 2) := by decide +kernel
theorem dX7_turn_259 : decode cX7_turn 259 = .ok (.invokevirtual 123, 3) := by decide +kernel
theorem dX7_turn_262 : decode cX7_turn 262 = .ok (.iconst 0, 1) := by decide +kernel
theorem dX7_turn_263 : decode cX7_turn 263 = .ok (.aload_n 0, 1) := by decide +kernel
theorem dX7_turn_264 : decode cX7_turn 264 = .ok (.iconst 2, 1) := by decide +kernel
theorem dX7_turn_265 : decode cX7_turn 265 = .ok (.invokevirtual 123, 3) := by decide +kernel
theorem dX7_turn_268 : decode cX7_turn 268 = .ok (.ifCond .ne 7, 3) := by decide +kernel
theorem dX7_turn_271 : decode cX7_turn 271 = .ok (.iconst 1, 1) := by decide +kernel
theorem dX7_turn_272 : decode cX7_turn 272 = .ok (.goto 4, 3) := by decide +kernel
theorem dX7_turn_275 : decode cX7_turn 275 = .ok (.iconst 0, 1) := by decide +kernel
theorem dX7_turn_276 : decode cX7_turn 276 = .ok (.invokevirtual 130, 3) := by decide +kernel
theorem dX7_turn_279 : decode cX7_turn 279 = .ok (.ifCond .eq 7, 3) := by decide +kernel
theorem dX7_turn_282 : decode cX7_turn 282 = .ok (.iconst 1, 1) := by decide +kernel
theorem dX7_turn_283 : decode cX7_turn 283 = .ok (.goto 4, 3) := by decide +kernel
theorem dX7_turn_286 : decode cX7_turn 286 = .ok (.iconst 0, 1) := by decide +kernel
theorem dX7_turn_287 : decode cX7_turn 287 = .ok (.ireturn, 1) := by decide +kernel
theorem dX7_turn_288 : decode cX7_turn 288 = .ok (.aload_n 0, 1) := by decide +kernel
theorem dX7_turn_289 : decode cX7_turn 289 = .ok (.iconst 5, 1) := by decide +kernel
theorem dX7_turn_290 : decode cX7_turn 290 = .ok (.invokevirtual 123, 3) := by decide +kernel
theorem dX7_turn_293 : decode cX7_turn 293 = .ok (.ifCond .gt 10, 3) := by decide +kernel
theorem dX7_turn_296 : decode cX7_turn 296 = .ok (.aload_n 2, 1) := by decide +kernel
theorem dX7_turn_297 : decode cX7_turn 297 = .ok (.iconst 4, 1) := by decide +kernel
theorem dX7_turn_298 : decode cX7_turn 298 = .ok (.iaload, 1) := by decide +kernel
theorem dX7_turn_299 : decode cX7_turn 299 = .ok (.iconst 1, 1) := by decide +kernel
theorem dX7_turn_300 : decode cX7_turn 300 = .ok (.if_icmp .ne 5, 3) := by decide +kernel
theorem dX7_turn_303 : decode cX7_turn 303 = .ok (.iconst 1, 1) := by decide +kernel
theorem dX7_turn_304 : decode cX7_turn 304 = .ok (.ireturn, 1) := by decide +kernel
theorem dX7_turn_305 : decode cX7_turn 305 = .ok (.aload_n 2, 1) := by decide +kernel
theorem dX7_turn_306 : decode cX7_turn 306 = .ok (.iconst 2, 1) := by decide +kernel
theorem dX7_turn_307 : decode cX7_turn 307 = .ok (.iaload, 1) := by decide +kernel
theorem dX7_turn_308 : decode cX7_turn 308 = .ok (.istore 7, 2) := by decide +kernel
theorem dX7_turn_310 : decode cX7_turn 310 = .ok (.aload_n 2, 1) := by decide +kernel
theorem dX7_turn_311 : decode cX7_turn 311 = .ok (.iconst 2, 1) := by decide +kernel
theorem dX7_turn_312 : decode cX7_turn 312 = .ok (.iconst 0, 1) := by decide +kernel
theorem dX7_turn_313 : decode cX7_turn 313 = .ok (.iastore, 1) := by decide +kernel
theorem dX7_turn_314 : decode cX7_turn 314 = .ok (.aload_n 2, 1) := by decide +kernel
theorem dX7_turn_315 : decode cX7_turn 315 = .ok (.iconst 4, 1) := by decide +kernel
theorem dX7_turn_316 : decode cX7_turn 316 = .ok (.iconst 1, 1) := by decide +kernel
theorem dX7_turn_317 : decode cX7_turn 317 = .ok (.iastore, 1) := by decide +kernel
theorem dX7_turn_318 : decode cX7_turn 318 = .ok (.aload_n 0, 1) := by decide +kernel
theorem dX7_turn_319 : decode cX7_turn 319 = .ok (.getfield 10, 3) := by decide +kernel
theorem dX7_turn_322 : decode cX7_turn 322 = .ok (.iload_n 1, 1) := by decide +kernel
theorem dX7_turn_323 : decode cX7_turn 323 = .ok (.invokevirtual 144, 3) := by decide +kernel
theorem dX7_turn_326 : decode cX7_turn 326 = .ok (.iload 7, 2) := by decide +kernel
theorem dX7_turn_328 : decode cX7_turn 328 = .ok (.if_icmp .ne 7, 3) := by decide +kernel
theorem dX7_turn_331 : decode cX7_turn 331 = .ok (.iconst 1, 1) := by decide +kernel
theorem dX7_turn_332 : decode cX7_turn 332 = .ok (.goto 4, 3) := by decide +kernel
theorem dX7_turn_335 : decode cX7_turn 335 = .ok (.iconst 0, 1) := by decide +kernel
theorem dX7_turn_336 : decode cX7_turn 336 = .ok (.ireturn, 1) := by decide +kernel
theorem dX7_turn_337 : decode cX7_turn 337 = .ok (.aload_n 2, 1) := by decide +kernel
theorem dX7_turn_338 : decode cX7_turn 338 = .ok (.iconst 0, 1) := by decide +kernel
theorem dX7_turn_339 : decode cX7_turn 339 = .ok (.iaload, 1) := by decide +kernel
theorem dX7_turn_340 : decode cX7_turn 340 = .ok (.ifCond .ne 10, 3) := by decide +kernel
theorem dX7_turn_343 : decode cX7_turn 343 = .ok (.aload_n 2, 1) := by decide +kernel
theorem dX7_turn_344 : decode cX7_turn 344 = .ok (.iconst 4, 1) := by decide +kernel
theorem dX7_turn_345 : decode cX7_turn 345 = .ok (.iaload, 1) := by decide +kernel
theorem dX7_turn_346 : decode cX7_turn 346 = .ok (.iconst 1, 1) := by decide +kernel
theorem dX7_turn_347 : decode cX7_turn 347 = .ok (.if_icmp .ne 5, 3) := by decide +kernel
theorem dX7_turn_350 : decode cX7_turn 350 = .ok (.iconst 1, 1) := by decide +kernel
theorem dX7_turn_351 : decode cX7_turn 351 = .ok (.ireturn, 1) := by decide +kernel
theorem dX7_turn_352 : decode cX7_turn 352 = .ok (.aload_n 2, 1) := by decide +kernel
theorem dX7_turn_353 : decode cX7_turn 353 = .ok (.bipush 13, 2) := by decide +kernel
theorem dX7_turn_355 : decode cX7_turn 355 = .ok (.iaload, 1) := by decide +kernel
theorem dX7_turn_356 : decode cX7_turn 356 = .ok (.iconst 1, 1) := by decide +kernel
theorem dX7_turn_357 : decode cX7_turn 357 = .ok (.if_icmp .ne 7, 3) := by decide +kernel
theorem dX7_turn_360 : decode cX7_turn 360 = .ok (.iconst 1, 1) := by decide +kernel
theorem dX7_turn_361 : decode cX7_turn 361 = .ok (.goto 4, 3) := by decide +kernel
theorem dX7_turn_364 : decode cX7_turn 364 = .ok (.iconst 0, 1) := by decide +kernel
theorem dX7_turn_365 : decode cX7_turn 365 = .ok (.istore 8, 2) := by decide +kernel
theorem dX7_turn_367 : decode cX7_turn 367 = .ok (.aload_n 2, 1) := by decide +kernel
theorem dX7_turn_368 : decode cX7_turn 368 = .ok (.bipush 13, 2) := by decide +kernel
theorem dX7_turn_370 : decode cX7_turn 370 = .ok (.iconst 1, 1) := by decide +kernel
theorem dX7_turn_371 : decode cX7_turn 371 = .ok (.iastore, 1) := by decide +kernel
theorem dX7_turn_372 : decode cX7_turn 372 = .ok (.aload_n 0, 1) := by decide +kernel
theorem dX7_turn_373 : decode cX7_turn 373 = .ok (.getfield 10, 3) := by decide +kernel
theorem dX7_turn_376 : decode cX7_turn 376 = .ok (.iload_n 1, 1) := by decide +kernel
theorem dX7_turn_377 : decode cX7_turn 377 = .ok (.invokevirtual 147, 3) := by decide +kernel
theorem dX7_turn_380 : decode cX7_turn 380 = .ok (.iload 8, 2) := by decide +kernel
theorem dX7_turn_382 : decode cX7_turn 382 = .ok (.if_icmp .ne 7, 3) := by decide +kernel
theorem dX7_turn_385 : decode cX7_turn 385 = .ok (.iconst 1, 1) := by decide +kernel
theorem dX7_turn_386 : decode cX7_turn 386 = .ok (.goto 4, 3) := by decide +kernel
theorem dX7_turn_389 : decode cX7_turn 389 = .ok (.iconst 0, 1) := by decide +kernel
theorem dX7_turn_390 : decode cX7_turn 390 = .ok (.ireturn, 1) := by decide +kernel
theorem dJ9_max_7cf53_0 : decode cJ9_max_7cf53 0 = .ok (.iload_n 0, 1) := by decide +kernel
theorem dJ9_max_7cf53_1 : decode cJ9_max_7cf53 1 = .ok (.iload_n 1, 1) := by decide +kernel
theorem dJ9_max_7cf53_2 : decode cJ9_max_7cf53 2 = .ok (.if_icmp .lt 7, 3) := by decide +kernel
theorem dJ9_max_7cf53_5 : decode cJ9_max_7cf53 5 = .ok (.iload_n 0, 1) := by decide +kernel
theorem dJ9_max_7cf53_6 : decode cJ9_max_7cf53 6 = .ok (.goto 4, 3) := by decide +kernel
theorem dJ9_max_7cf53_9 : decode cJ9_max_7cf53 9 = .ok (.iload_n 1, 1) := by decide +kernel
theorem dJ9_max_7cf53_10 : decode cJ9_max_7cf53 10 = .ok (.ireturn, 1) := by decide +kernel
theorem dJ9_min_7cf53_0 : decode cJ9_min_7cf53 0 = .ok (.iload_n 0, 1) := by decide +kernel
theorem dJ9_min_7cf53_1 : decode cJ9_min_7cf53 1 = .ok (.iload_n 1, 1) := by decide +kernel
theorem dJ9_min_7cf53_2 : decode cJ9_min_7cf53 2 = .ok (.if_icmp .gt 7, 3) := by decide +kernel
theorem dJ9_min_7cf53_5 : decode cJ9_min_7cf53 5 = .ok (.iload_n 0, 1) := by decide +kernel
theorem dJ9_min_7cf53_6 : decode cJ9_min_7cf53 6 = .ok (.goto 4, 3) := by decide +kernel
theorem dJ9_min_7cf53_9 : decode cJ9_min_7cf53 9 = .ok (.iload_n 1, 1) := by decide +kernel
theorem dJ9_min_7cf53_10 : decode cJ9_min_7cf53 10 = .ok (.ireturn, 1) := by decide +kernel
theorem dJ9_min_f86c9_0 : decode cJ9_min_f86c9 0 = .ok (.lload_n 0, 1) := by decide +kernel
theorem dJ9_min_f86c9_1 : decode cJ9_min_f86c9 1 = .ok (.lload_n 2, 1) := by decide +kernel
theorem dJ9_min_f86c9_2 : decode cJ9_min_f86c9 2 = .ok (.lcmp, 1) := by decide +kernel
theorem dJ9_min_f86c9_3 : decode cJ9_min_f86c9 3 = .ok (.ifCond .gt 7, 3) := by decide +kernel
theorem dJ9_min_f86c9_6 : decode cJ9_min_f86c9 6 = .ok (.lload_n 0, 1) := by decide +kernel
theorem dJ9_min_f86c9_7 : decode cJ9_min_f86c9 7 = .ok (.goto 4, 3) := by decide +kernel
theorem dJ9_min_f86c9_10 : decode cJ9_min_f86c9 10 = .ok (.lload_n 2, 1) := by decide +kernel
theorem dJ9_min_f86c9_11 : decode cJ9_min_f86c9 11 = .ok (.lreturn, 1) := by decide +kernel
theorem dL_below_0 : decode cL_below 0 = .ok (.iload_n 0, 1) := by decide +kernel
theorem dL_below_1 : decode cL_below 1 = .ok (.ldc 7, 2) := by decide +kernel
theorem dL_below_3 : decode cL_below 3 = .ok (.iand, 1) := by decide +kernel
theorem dL_below_4 : decode cL_below 4 = .ok (.iload_n 1, 1) := by decide +kernel
theorem dL_below_5 : decode cL_below 5 = .ok (.irem, 1) := by decide +kernel
theorem dL_below_6 : decode cL_below 6 = .ok (.ireturn, 1) := by decide +kernel
theorem dL_cell_0 : decode cL_cell 0 = .ok (.iload_n 1, 1) := by decide +kernel
theorem dL_cell_1 : decode cL_cell 1 = .ok (.aload_n 0, 1) := by decide +kernel
theorem dL_cell_2 : decode cL_cell 2 = .ok (.arraylength, 1) := by decide +kernel
theorem dL_cell_3 : decode cL_cell 3 = .ok (.if_icmp .ge 9, 3) := by decide +kernel
theorem dL_cell_6 : decode cL_cell 6 = .ok (.aload_n 0, 1) := by decide +kernel
theorem dL_cell_7 : decode cL_cell 7 = .ok (.iload_n 1, 1) := by decide +kernel
theorem dL_cell_8 : decode cL_cell 8 = .ok (.iaload, 1) := by decide +kernel
theorem dL_cell_9 : decode cL_cell 9 = .ok (.goto 9, 3) := by decide +kernel
theorem dL_cell_12 : decode cL_cell 12 = .ok (.ldc 8, 2) := by decide +kernel
theorem dL_cell_14 : decode cL_cell 14 = .ok (.iload_n 1, 1) := by decide +kernel
theorem dL_cell_15 : decode cL_cell 15 = .ok (.iconst 3, 1) := by decide +kernel
theorem dL_cell_16 : decode cL_cell 16 = .ok (.iadd, 1) := by decide +kernel
theorem dL_cell_17 : decode cL_cell 17 = .ok (.imul, 1) := by decide +kernel
theorem dL_cell_18 : decode cL_cell 18 = .ok (.ireturn, 1) := by decide +kernel
set_option maxRecDepth 20000 in
theorem ggL_law_X7_init : GoodIn wsL_law wsX7_init := goodIn_r _ [8, 9, 10, 11, 12, 13, 14, 15, 16, 17, 18, 19, 20, 21, 22, 23, 24, 25, 26, 27, 28, 29, 30, 31, 32, 33, 34, 35, 36, 37, 38, 39, 40, 41, 42, 43, 44, 45, 46, 47, 48, 49, 50, 51, 52, 53, 54, 55, 56, 57, 58, 59, 60, 61, 62, 63, 64, 65, 66, 67, 68, 69, 70, 71, 72, 73, 74, 75, 76, 77, 78, 79, 80, 81, 82, 83, 84, 85, 86, 87, 88, 89, 90, 91, 460, 461, 462, 463, 464, 465, 466, 467, 468, 469, 470, 447, 448, 449, 450, 451, 452, 453, 454, 455, 456, 457, 458, 459, 471, 472, 473, 474, 475, 476, 477, 478, 479, 480, 481, 482, 483, 484, 485, 486, 487, 488, 489, 490, 491, 492, 493, 494, 495, 496, 497, 498, 499, 500, 501, 502, 503, 504, 505, 506, 507, 508] (by decide +kernel) (by decide +kernel)
set_option maxRecDepth 20000 in
theorem gL_law_X7_init : GoodIn wsL_law (wsX7_init) := ggL_law_X7_init
set_option maxRecDepth 20000 in
theorem ggL_law_X7_found : GoodIn wsL_law wsX7_found := goodIn_ca (goodIn_ca (goodIn_ca (goodIn_r _ [95, 96, 97, 98, 2, 99, 29, 30, 100, 101, 102, 103, 104, 105, 106, 107, 108, 109, 110, 16, 17, 19, 15, 111, 112, 113, 14, 114, 38, 115, 116, 117, 118, 119, 120, 121, 122, 123, 124, 125, 126, 127, 128, 129, 130, 68, 131, 74, 132, 133, 134, 135, 75, 136, 137, 138, 139, 140, 141, 142, 143, 144, 145, 146, 147, 22, 148, 149, 150, 151, 152, 153, 154, 155, 156, 157, 158, 159, 160, 161, 162, 163, 164, 165, 166, 167, 168, 169, 170, 171, 24, 23, 172, 173, 174, 175, 176, 177, 178, 179, 180, 181, 182, 183, 184, 185, 186, 187, 188, 189, 190, 191, 192, 193, 194, 195, 196, 197, 198, 41, 199, 447, 448, 449, 450, 451, 452, 453, 454, 455, 456, 457, 458, 459, 460, 461, 462, 463, 464, 465, 466, 467, 468, 469, 470, 471, 472, 473, 474, 475, 476, 477, 478, 479, 480, 481, 482, 500, 501, 502, 503, 504, 505, 506, 507, 508, 491, 492, 493, 494, 495] (by decide +kernel) (by decide +kernel)) (goodIn_sub (fun _ h => List.mem_append_left _ (List.mem_append_left _ (List.mem_append_right _ h))) (by decide +kernel))) (goodIn_sub (fun _ h => List.mem_append_left _ (List.mem_append_right _ h)) (by decide +kernel))) (goodIn_sub (fun _ h => List.mem_append_right _ h) (by decide +kernel))
set_option maxRecDepth 20000 in
theorem gL_law_X7_found : GoodIn wsL_law (wsV RL 18 RX7 yX7_found wsX7_found) := goodIn_app (goodIn_of _ (by decide +kernel)) ggL_law_X7_found
set_option maxRecDepth 20000 in
theorem ggL_law_X7_turn : GoodIn wsL_law wsX7_turn := goodIn_ca (goodIn_ca (goodIn_ca (goodIn_r _ [203, 24, 15, 25, 26, 96, 97, 98, 2, 99, 29, 30, 100, 101, 102, 103, 104, 105, 106, 186, 187, 188, 189, 190, 191, 192, 14, 193, 38, 182, 183, 194, 118, 119, 120, 121, 122, 123, 124, 125, 126, 127, 195, 196, 197, 198, 180, 181, 41, 199, 204, 205, 206, 207, 208, 209, 210, 211, 212, 213, 214, 215, 216, 217, 218, 144, 145, 146, 147, 22, 148, 149, 150, 151, 115, 152, 153, 154, 155, 156, 157, 158, 159, 160, 68, 161, 162, 163, 164, 165, 166, 167, 219, 220, 221, 222, 223, 224, 225, 226, 184, 227, 447, 448, 449, 450, 451, 452, 453, 454, 455, 456, 457, 458, 459, 460, 461, 462, 463, 464, 465, 466, 467, 468, 469, 470, 471, 472, 473, 474, 475, 476, 477, 478, 479, 480, 481, 482, 504, 505, 506, 507, 508, 491, 492, 493, 494, 495, 500, 501, 502, 503] (by decide +kernel) (by decide +kernel)) (goodIn_sub (fun _ h => List.mem_append_left _ (List.mem_append_left _ (List.mem_append_right _ h))) (by decide +kernel))) (goodIn_sub (fun _ h => List.mem_append_left _ (List.mem_append_right _ h)) (by decide +kernel))) (goodIn_sub (fun _ h => List.mem_append_right _ h) (by decide +kernel))
set_option maxRecDepth 20000 in
theorem gL_law_X7_turn : GoodIn wsL_law (wsV RL 22 RX7 yX7_turn wsX7_turn) := goodIn_app (goodIn_of _ (by decide +kernel)) ggL_law_X7_turn
set_option maxRecDepth 20000 in
theorem ggL_law_X7_draw : GoodIn wsL_law wsX7_draw := goodIn_r _ [99, 29, 30, 100, 101, 102, 103, 104, 105, 106, 447, 448, 449, 450, 451, 452, 453, 454, 455, 456, 457, 458, 459] (by decide +kernel) (by decide +kernel)
set_option maxRecDepth 20000 in
theorem gL_law_X7_draw : GoodIn wsL_law (wsV RL 26 RX7 yX7_draw wsX7_draw) := goodIn_app (goodIn_of _ (by decide +kernel)) ggL_law_X7_draw
set_option maxRecDepth 20000 in
theorem ggL_law_X6_digest : GoodIn wsL_law wsX6_digest := goodIn_ca (goodIn_ca (goodIn_ca (goodIn_r _ [232, 233, 234, 38, 182, 41, 199, 235, 236, 237, 14, 238, 239, 48, 240, 241, 242, 243, 47, 244, 123, 124, 125, 126, 127, 245, 246, 247, 37, 248, 60, 249, 250, 251, 252, 253, 254, 159, 160, 68, 161, 162, 163, 255, 256, 257, 258, 115, 116, 117, 118, 119, 120, 121, 122, 128, 129, 130, 131, 74, 132, 133, 134, 135, 75, 259, 260, 261, 262, 183, 184, 185, 194, 208, 263, 264, 265, 266, 227, 267, 268, 269, 270, 39, 195, 196, 197, 198, 180, 181, 271, 272, 273, 274, 62, 275, 63, 276, 173, 174, 175, 64, 65, 277, 278, 279, 280, 281, 282, 283, 284, 285, 70, 286, 287, 288, 289, 79, 290, 291, 292, 293, 294, 295, 296, 297, 298, 299, 66, 300, 301, 302, 303, 304, 305, 306, 307, 308, 309, 310, 311, 80, 312, 313, 314, 315, 316, 317, 318, 319, 320, 321, 322, 323, 324, 325, 326, 327, 328, 329, 330, 331, 332, 333, 334, 335, 336, 337, 338, 339, 340, 341, 342, 343, 344, 345, 346, 347, 348, 349, 350, 351, 352, 353, 354, 355, 356, 357, 358, 359, 360, 361, 362, 363, 156, 157, 364, 365, 366, 367, 43, 54, 368, 369, 370, 371, 372, 373, 374, 375, 376, 377, 378, 379, 380, 381, 382, 383, 384, 385, 386, 387, 388, 389, 390, 391, 392, 152, 153, 154, 155, 158, 164, 165, 166, 167, 460, 461, 462, 463, 464, 465, 466, 467, 468, 469, 470, 471, 472, 473, 474, 475, 476, 477, 478, 479, 480, 481, 482, 491, 492, 493, 494, 495, 483, 484, 485, 486, 487, 488, 489, 490, 500, 501, 502, 503, 504, 505, 506, 507, 508, 496, 497, 498, 499] (by decide +kernel) (by decide +kernel)) (goodIn_sub (fun _ h => List.mem_append_left _ (List.mem_append_right _ h)) (by decide +kernel))) (goodIn_sub (fun _ h => List.mem_append_left _ (List.mem_append_left _ (List.mem_append_right _ h))) (by decide +kernel))) (goodIn_sub (fun _ h => List.mem_append_right _ h) (by decide +kernel))
set_option maxRecDepth 20000 in
theorem gL_law_X6_digest : GoodIn wsL_law (wsV RL 34 RX6 yX6_digest wsX6_digest) := goodIn_app (goodIn_of _ (by decide +kernel)) ggL_law_X6_digest
set_option maxRecDepth 20000 in
theorem ggL_law_X6_keptBack : GoodIn wsL_law wsX6_keptBack := goodIn_ca (goodIn_ca (goodIn_r _ [392, 38, 115, 39, 152, 153, 14, 154, 121, 122, 118, 119, 120, 155, 156, 157, 123, 124, 125, 126, 127, 158, 159, 160, 68, 161, 162, 163, 271, 272, 273, 37, 274, 60, 62, 275, 63, 276, 173, 174, 175, 64, 65, 277, 278, 279, 280, 281, 74, 75, 282, 283, 284, 285, 70, 286, 287, 288, 289, 79, 290, 291, 292, 293, 294, 295, 296, 297, 298, 299, 66, 300, 301, 302, 303, 304, 305, 306, 307, 308, 309, 310, 311, 80, 312, 313, 314, 315, 316, 317, 318, 319, 320, 321, 322, 323, 324, 325, 129, 130, 131, 132, 133, 134, 135, 326, 327, 328, 329, 330, 331, 332, 333, 334, 335, 336, 337, 338, 339, 340, 341, 342, 343, 344, 345, 346, 347, 348, 349, 350, 351, 352, 353, 354, 355, 249, 356, 357, 358, 359, 360, 361, 362, 363, 254, 164, 165, 166, 167, 460, 461, 462, 463, 464, 465, 466, 467, 468, 469, 470, 471, 472, 473, 474, 475, 476, 477, 478, 479, 480, 481, 482, 500, 501, 502, 503, 504, 505, 506, 507, 508] (by decide +kernel) (by decide +kernel)) (goodIn_sub (fun _ h => List.mem_append_left _ (List.mem_append_left _ (List.mem_append_right _ h))) (by decide +kernel))) (goodIn_sub (fun _ h => List.mem_append_left _ (List.mem_append_right _ h)) (by decide +kernel))
set_option maxRecDepth 20000 in
theorem gL_law_X6_keptBack : GoodIn wsL_law (wsV RL 40 RX6 yX6_keptBack wsX6_keptBack) := goodIn_app (goodIn_of _ (by decide +kernel)) ggL_law_X6_keptBack
set_option maxRecDepth 20000 in
theorem ggL_law_X6_wouldGive : GoodIn wsL_law wsX6_wouldGive := goodIn_ca (goodIn_r _ [388, 39, 38, 123, 124, 14, 125, 126, 127, 271, 272, 273, 37, 274, 60, 62, 275, 63, 276, 173, 174, 175, 64, 65, 277, 278, 279, 280, 68, 281, 74, 75, 282, 162, 163, 283, 284, 285, 70, 286, 287, 288, 289, 79, 290, 291, 292, 293, 294, 295, 296, 297, 298, 299, 66, 300, 301, 302, 303, 304, 305, 306, 307, 308, 309, 310, 311, 80, 312, 313, 314, 315, 316, 317, 318, 319, 320, 321, 322, 323, 324, 325, 129, 130, 131, 132, 133, 134, 135, 326, 327, 328, 329, 330, 331, 332, 333, 334, 335, 336, 337, 338, 339, 340, 341, 342, 343, 344, 345, 346, 347, 348, 349, 350, 351, 352, 353, 354, 355, 249, 356, 357, 358, 359, 360, 361, 362, 363, 156, 157, 254, 159, 160, 161, 460, 461, 462, 463, 464, 465, 466, 467, 468, 469, 470, 471, 472, 473, 474, 475, 476, 477, 478, 479, 480, 481, 482, 500, 501, 502, 503, 504, 505, 506, 507, 508] (by decide +kernel) (by decide +kernel)) (goodIn_sub (fun _ h => List.mem_append_left _ (List.mem_append_right _ h)) (by decide +kernel))
set_option maxRecDepth 20000 in
theorem gL_law_X6_wouldGive : GoodIn wsL_law (wsV RL 44 RX6 yX6_wouldGive wsX6_wouldGive) := goodIn_app (goodIn_of _ (by decide +kernel)) ggL_law_X6_wouldGive
set_option maxRecDepth 20000 in
theorem ggL_law_X6_ofWell : GoodIn wsL_law wsX6_ofWell := goodIn_ca (goodIn_ca (goodIn_r _ [262, 38, 182, 183, 41, 184, 185, 194, 208, 199, 263, 264, 265, 266, 227, 118, 119, 14, 120, 121, 122, 123, 124, 125, 126, 127, 460, 461, 462, 463, 464, 465, 466, 467, 468, 469, 470, 471, 472, 473, 474, 475, 476, 477, 478, 479, 480, 481, 482, 504, 505, 506, 507, 508, 491, 492, 493, 494, 495] (by decide +kernel) (by decide +kernel)) (goodIn_sub (fun _ h => List.mem_append_left _ (List.mem_append_left _ (List.mem_append_right _ h))) (by decide +kernel))) (goodIn_sub (fun _ h => List.mem_append_left _ (List.mem_append_right _ h)) (by decide +kernel))
set_option maxRecDepth 20000 in
theorem gL_law_X6_ofWell : GoodIn wsL_law (wsV RL 47 RX6 yX6_ofWell wsX6_ofWell) := goodIn_app (goodIn_of _ (by decide +kernel)) ggL_law_X6_ofWell
set_option maxRecDepth 20000 in
theorem ggL_law_X6_bestChoke : GoodIn wsL_law wsX6_bestChoke := goodIn_ca (goodIn_ca (goodIn_ca (goodIn_r _ [270, 38, 182, 39, 183, 194, 118, 119, 14, 120, 121, 122, 123, 124, 125, 126, 127, 195, 196, 197, 198, 180, 181, 41, 199, 271, 272, 273, 37, 274, 60, 62, 275, 63, 276, 173, 174, 175, 64, 65, 277, 278, 279, 280, 68, 281, 74, 75, 282, 162, 163, 283, 284, 285, 70, 286, 287, 288, 289, 79, 290, 291, 292, 293, 294, 295, 296, 297, 298, 299, 66, 300, 301, 302, 303, 304, 305, 306, 307, 308, 309, 310, 311, 80, 312, 313, 314, 315, 316, 317, 318, 319, 320, 321, 322, 323, 324, 325, 129, 130, 131, 132, 133, 134, 135, 326, 327, 328, 329, 330, 331, 332, 333, 334, 335, 336, 337, 338, 339, 340, 341, 342, 343, 344, 345, 346, 347, 348, 349, 350, 351, 352, 353, 354, 355, 249, 356, 357, 358, 359, 360, 361, 362, 363, 156, 157, 254, 159, 160, 161, 460, 461, 462, 463, 464, 465, 466, 467, 468, 469, 470, 471, 472, 473, 474, 475, 476, 477, 478, 479, 480, 481, 482, 504, 505, 506, 507, 508, 491, 492, 493, 494, 495, 500, 501, 502, 503] (by decide +kernel) (by decide +kernel)) (goodIn_sub (fun _ h => List.mem_append_left _ (List.mem_append_left _ (List.mem_append_right _ h))) (by decide +kernel))) (goodIn_sub (fun _ h => List.mem_append_left _ (List.mem_append_right _ h)) (by decide +kernel))) (goodIn_sub (fun _ h => List.mem_append_right _ h) (by decide +kernel))
set_option maxRecDepth 20000 in
theorem gL_law_X6_bestChoke : GoodIn wsL_law (wsV RL 51 RX6 yX6_bestChoke wsX6_bestChoke) := goodIn_app (goodIn_of _ (by decide +kernel)) ggL_law_X6_bestChoke
set_option maxRecDepth 20000 in
theorem ggL_law_X6_booked : GoodIn wsL_law wsX6_booked := goodIn_ca (goodIn_r _ [379, 47, 380, 381, 382, 383, 384, 123, 124, 14, 125, 126, 127, 460, 461, 462, 463, 464, 465, 466, 467, 468, 469, 470, 483, 484, 485, 486, 487, 488, 489, 490] (by decide +kernel) (by decide +kernel)) (goodIn_sub (fun _ h => List.mem_append_left _ (List.mem_append_right _ h)) (by decide +kernel))
set_option maxRecDepth 20000 in
theorem gL_law_X6_booked : GoodIn wsL_law (wsV RL 54 RX6 yX6_booked wsX6_booked) := goodIn_app (goodIn_of _ (by decide +kernel)) ggL_law_X6_booked
set_option maxRecDepth 20000 in
theorem ggL_law_X6_book : GoodIn wsL_law wsX6_book := goodIn_r _ [401, 38, 182, 47, 402, 244, 403, 48, 380, 383, 381, 382, 239, 384, 404, 405, 406, 14, 407, 39, 408, 409, 183, 194, 271, 272, 273, 37, 274, 60, 62, 275, 63, 276, 173, 174, 175, 64, 65, 277, 278, 279, 280, 68, 281, 74, 75, 282, 162, 163, 283, 284, 285, 70, 286, 287, 288, 289, 79, 290, 291, 292, 293, 294, 295, 296, 297, 298, 299, 66, 300, 301, 302, 303, 304, 305, 306, 307, 308, 309, 310, 311, 80, 312, 313, 314, 315, 316, 317, 318, 319, 320, 321, 322, 323, 324, 325, 129, 130, 131, 132, 133, 134, 135, 326, 327, 328, 329, 330, 331, 332, 333, 334, 335, 336, 337, 338, 339, 340, 341, 342, 343, 344, 345, 346, 347, 348, 349, 350, 351, 352, 353, 354, 355, 249, 356, 357, 358, 359, 360, 361, 362, 363, 156, 157, 254, 159, 160, 161, 460, 461, 462, 463, 464, 465, 466, 467, 468, 469, 470, 471, 472, 473, 474, 475, 476, 477, 478, 479, 480, 481, 482, 483, 484, 485, 486, 487, 488, 489, 490, 504, 505, 506, 507, 508, 500, 501, 502, 503] (by decide +kernel) (by decide +kernel)
set_option maxRecDepth 20000 in
theorem gL_law_X6_book : GoodIn wsL_law (wsV RL 57 RX6 yX6_book wsX6_book) := goodIn_app (goodIn_of _ (by decide +kernel)) ggL_law_X6_book
set_option maxRecDepth 20000 in
theorem ggL_law_X6_many : GoodIn wsL_law wsX6_many := goodIn_ca (goodIn_r _ [238, 239, 38, 182, 48, 240, 241, 242, 243, 47, 244, 123, 124, 14, 125, 126, 127, 245, 246, 247, 37, 248, 60, 249, 250, 251, 252, 253, 254, 159, 160, 68, 161, 162, 163, 460, 461, 462, 463, 464, 465, 466, 467, 468, 469, 470, 471, 472, 473, 474, 475, 476, 477, 478, 479, 480, 481, 482, 483, 484, 485, 486, 487, 488, 489, 490, 500, 501, 502, 503] (by decide +kernel) (by decide +kernel)) (goodIn_sub (fun _ h => List.mem_append_left _ (List.mem_append_right _ h)) (by decide +kernel))
set_option maxRecDepth 20000 in
theorem gL_law_X6_many : GoodIn wsL_law (wsV RL 61 RX6 yX6_many wsX6_many) := goodIn_app (goodIn_of _ (by decide +kernel)) ggL_law_X6_many
set_option maxRecDepth 20000 in
theorem ggL_law_X6_choke : GoodIn wsL_law wsX6_choke := goodIn_ca (goodIn_ca (goodIn_ca (goodIn_r _ [193, 38, 182, 183, 194, 118, 119, 14, 120, 121, 122, 123, 124, 125, 126, 127, 195, 196, 197, 198, 180, 181, 41, 199, 460, 461, 462, 463, 464, 465, 466, 467, 468, 469, 470, 471, 472, 473, 474, 475, 476, 477, 478, 479, 480, 481, 482, 504, 505, 506, 507, 508, 491, 492, 493, 494, 495] (by decide +kernel) (by decide +kernel)) (goodIn_sub (fun _ h => List.mem_append_left _ (List.mem_append_left _ (List.mem_append_right _ h))) (by decide +kernel))) (goodIn_sub (fun _ h => List.mem_append_left _ (List.mem_append_right _ h)) (by decide +kernel))) (goodIn_sub (fun _ h => List.mem_append_right _ h) (by decide +kernel))
set_option maxRecDepth 20000 in
theorem gL_law_X6_choke : GoodIn wsL_law (wsV RL 64 RX6 yX6_choke wsX6_choke) := goodIn_app (goodIn_of _ (by decide +kernel)) ggL_law_X6_choke
set_option maxRecDepth 20000 in
theorem ggL_law_X6_fault : GoodIn wsL_law wsX6_fault := goodIn_ca (goodIn_r _ [151, 38, 115, 152, 153, 14, 154, 121, 122, 118, 119, 120, 155, 156, 157, 158, 159, 160, 68, 161, 162, 163, 164, 165, 166, 167, 460, 461, 462, 463, 464, 465, 466, 467, 468, 469, 470, 471, 472, 473, 474, 475, 476, 477, 478, 479, 480, 481, 482, 500, 501, 502, 503] (by decide +kernel) (by decide +kernel)) (goodIn_sub (fun _ h => List.mem_append_left _ (List.mem_append_left _ (List.mem_append_right _ h))) (by decide +kernel))
set_option maxRecDepth 20000 in
theorem gL_law_X6_fault : GoodIn wsL_law (wsV RL 67 RX6 yX6_fault wsX6_fault) := goodIn_app (goodIn_of _ (by decide +kernel)) ggL_law_X6_fault
set_option maxRecDepth 20000 in
theorem ggL_law_X6_pass : GoodIn wsL_law wsX6_pass := goodIn_ca (goodIn_r _ [416, 38, 239, 417, 123, 124, 14, 125, 126, 127, 418, 295, 296, 37, 297, 275, 62, 298, 299, 66, 300, 301, 302, 303, 304, 305, 64, 306, 307, 308, 309, 310, 70, 311, 80, 312, 313, 314, 315, 60, 316, 317, 318, 319, 320, 321, 322, 323, 324, 277, 325, 129, 130, 68, 131, 74, 132, 133, 134, 135, 75, 326, 327, 328, 329, 63, 65, 330, 331, 332, 333, 334, 335, 336, 337, 338, 339, 340, 341, 342, 343, 344, 345, 346, 347, 348, 349, 350, 351, 352, 353, 354, 355, 249, 356, 357, 358, 359, 360, 361, 362, 363, 156, 157, 254, 159, 160, 161, 162, 163, 419, 420, 421, 422, 48, 241, 423, 242, 424, 243, 425, 182, 183, 184, 41, 265, 264, 426, 427, 428, 429, 263, 266, 430, 431, 432, 433, 287, 434, 435, 436, 437, 438, 439, 440, 441, 227, 442, 173, 174, 175, 443, 444, 445, 446, 43, 54, 368, 460, 461, 462, 463, 464, 465, 466, 467, 468, 469, 470, 471, 472, 473, 474, 475, 476, 477, 478, 479, 480, 481, 482, 504, 505, 506, 507, 508, 500, 501, 502, 503, 491, 492, 493, 494, 495, 496, 497, 498, 499] (by decide +kernel) (by decide +kernel)) (goodIn_sub (fun _ h => List.mem_append_left _ (List.mem_append_right _ h)) (by decide +kernel))
set_option maxRecDepth 20000 in
theorem gL_law_X6_pass : GoodIn wsL_law (wsV RL 71 RX6 yX6_pass wsX6_pass) := goodIn_app (goodIn_of _ (by decide +kernel)) ggL_law_X6_pass
theorem dL_law_0 : decode cL_law 0 = .ok (.iconst 0, 1) := by decide +kernel
theorem dL_law_1 : decode cL_law 1 = .ok (.istore_n 1, 1) := by decide +kernel
theorem dL_law_2 : decode cL_law 2 = .ok (.iload_n 1, 1) := by decide +kernel
theorem dL_law_3 : decode cL_law 3 = .ok (.iconst 3, 1) := by decide +kernel
theorem dL_law_4 : decode cL_law 4 = .ok (.if_icmp .ge 557, 3) := by decide +kernel
theorem dL_law_7 : decode cL_law 7 = .ok (.new 9, 3) := by decide +kernel
theorem dL_law_10 : decode cL_law 10 = .ok (.dup, 1) := by decide +kernel
theorem dL_law_11 : decode cL_law 11 = .ok (.aload_n 0, 1) := by decide +kernel
theorem dL_law_12 : decode cL_law 12 = .ok (.bipush 31, 2) := by decide +kernel
theorem dL_law_14 : decode cL_law 14 = .ok (.iload_n 1, 1) := by decide +kernel
theorem dL_law_15 : decode cL_law 15 = .ok (.imul, 1) := by decide +kernel
theorem dL_law_16 : decode cL_law 16 = .ok (.bipush 7, 2) := by decide +kernel
theorem dL_law_18 : decode cL_law 18 = .ok (.iadd, 1) := by decide +kernel
theorem dL_law_19 : decode cL_law 19 = .ok (.invokespecial 11, 3) := by decide +kernel
theorem dL_law_22 : decode cL_law 22 = .ok (.astore_n 2, 1) := by decide +kernel
theorem dL_law_23 : decode cL_law 23 = .ok (.new 9, 3) := by decide +kernel
theorem dL_law_26 : decode cL_law 26 = .ok (.dup, 1) := by decide +kernel
theorem dL_law_27 : decode cL_law 27 = .ok (.aload_n 0, 1) := by decide +kernel
theorem dL_law_28 : decode cL_law 28 = .ok (.bipush 31, 2) := by decide +kernel
theorem dL_law_30 : decode cL_law 30 = .ok (.iload_n 1, 1) := by decide +kernel
theorem dL_law_31 : decode cL_law 31 = .ok (.imul, 1) := by decide +kernel
theorem dL_law_32 : decode cL_law 32 = .ok (.bipush 7, 2) := by decide +kernel
theorem dL_law_34 : decode cL_law 34 = .ok (.iadd, 1) := by decide +kernel
theorem dL_law_35 : decode cL_law 35 = .ok (.invokespecial 11, 3) := by decide +kernel
theorem dL_law_38 : decode cL_law 38 = .ok (.astore_n 3, 1) := by decide +kernel
theorem dL_law_39 : decode cL_law 39 = .ok (.aload_n 2, 1) := by decide +kernel
theorem dL_law_40 : decode cL_law 40 = .ok (.getfield 14, 3) := by decide +kernel
theorem dL_law_43 : decode cL_law 43 = .ok (.astore 4, 2) := by decide +kernel
theorem dL_law_45 : decode cL_law 45 = .ok (.aload_n 2, 1) := by decide +kernel
theorem dL_law_46 : decode cL_law 46 = .ok (.iconst 3, 1) := by decide +kernel
theorem dL_law_47 : decode cL_law 47 = .ok (.invokevirtual 18, 3) := by decide +kernel
theorem dL_law_50 : decode cL_law 50 = .ok (.ifCond .eq 11, 3) := by decide +kernel
theorem dL_law_53 : decode cL_law 53 = .ok (.aload_n 3, 1) := by decide +kernel
theorem dL_law_54 : decode cL_law 54 = .ok (.iconst 3, 1) := by decide +kernel
theorem dL_law_55 : decode cL_law 55 = .ok (.invokevirtual 18, 3) := by decide +kernel
theorem dL_law_58 : decode cL_law 58 = .ok (.ifCond .ne 5, 3) := by decide +kernel
theorem dL_law_61 : decode cL_law 61 = .ok (.iconst 0, 1) := by decide +kernel
theorem dL_law_62 : decode cL_law 62 = .ok (.ireturn, 1) := by decide +kernel
theorem dL_law_63 : decode cL_law 63 = .ok (.iconst 0, 1) := by decide +kernel
theorem dL_law_64 : decode cL_law 64 = .ok (.istore 5, 2) := by decide +kernel
theorem dL_law_66 : decode cL_law 66 = .ok (.iload 5, 2) := by decide +kernel
theorem dL_law_68 : decode cL_law 68 = .ok (.bipush 7, 2) := by decide +kernel
theorem dL_law_70 : decode cL_law 70 = .ok (.if_icmp .ge 485, 3) := by decide +kernel
theorem dL_law_73 : decode cL_law 73 = .ok (.aload_n 2, 1) := by decide +kernel
theorem dL_law_74 : decode cL_law 74 = .ok (.invokevirtual 22, 3) := by decide +kernel
theorem dL_law_77 : decode cL_law 77 = .ok (.ifCond .eq 10, 3) := by decide +kernel
theorem dL_law_80 : decode cL_law 80 = .ok (.aload_n 3, 1) := by decide +kernel
theorem dL_law_81 : decode cL_law 81 = .ok (.invokevirtual 22, 3) := by decide +kernel
theorem dL_law_84 : decode cL_law 84 = .ok (.ifCond .ne 5, 3) := by decide +kernel
theorem dL_law_87 : decode cL_law 87 = .ok (.iconst 0, 1) := by decide +kernel
theorem dL_law_88 : decode cL_law 88 = .ok (.ireturn, 1) := by decide +kernel
theorem dL_law_89 : decode cL_law 89 = .ok (.aload_n 2, 1) := by decide +kernel
theorem dL_law_90 : decode cL_law 90 = .ok (.iconst 3, 1) := by decide +kernel
theorem dL_law_91 : decode cL_law 91 = .ok (.invokevirtual 26, 3) := by decide +kernel
theorem dL_law_94 : decode cL_law 94 = .ok (.istore 6, 2) := by decide +kernel
theorem dL_law_96 : decode cL_law 96 = .ok (.iconst 4, 1) := by decide +kernel
theorem dL_law_97 : decode cL_law 97 = .ok (.aload_n 2, 1) := by decide +kernel
theorem dL_law_98 : decode cL_law 98 = .ok (.iconst 4, 1) := by decide +kernel
theorem dL_law_99 : decode cL_law 99 = .ok (.invokevirtual 26, 3) := by decide +kernel
theorem dL_law_102 : decode cL_law 102 = .ok (.imul, 1) := by decide +kernel
theorem dL_law_103 : decode cL_law 103 = .ok (.aload_n 2, 1) := by decide +kernel
theorem dL_law_104 : decode cL_law 104 = .ok (.iconst 3, 1) := by decide +kernel
theorem dL_law_105 : decode cL_law 105 = .ok (.invokevirtual 26, 3) := by decide +kernel
theorem dL_law_108 : decode cL_law 108 = .ok (.iadd, 1) := by decide +kernel
theorem dL_law_109 : decode cL_law 109 = .ok (.istore 7, 2) := by decide +kernel
theorem dL_law_111 : decode cL_law 111 = .ok (.iconst 1, 1) := by decide +kernel
theorem dL_law_112 : decode cL_law 112 = .ok (.aload_n 2, 1) := by decide +kernel
theorem dL_law_113 : decode cL_law 113 = .ok (.iconst 4, 1) := by decide +kernel
theorem dL_law_114 : decode cL_law 114 = .ok (.invokevirtual 26, 3) := by decide +kernel
theorem dL_law_117 : decode cL_law 117 = .ok (.iadd, 1) := by decide +kernel
theorem dL_law_118 : decode cL_law 118 = .ok (.istore 8, 2) := by decide +kernel
theorem dL_law_120 : decode cL_law 120 = .ok (.aload_n 2, 1) := by decide +kernel
theorem dL_law_121 : decode cL_law 121 = .ok (.bipush 10, 2) := by decide +kernel
theorem dL_law_123 : decode cL_law 123 = .ok (.invokevirtual 26, 3) := by decide +kernel
theorem dL_law_126 : decode cL_law 126 = .ok (.istore 9, 2) := by decide +kernel
theorem dL_law_128 : decode cL_law 128 = .ok (.aload_n 3, 1) := by decide +kernel
theorem dL_law_129 : decode cL_law 129 = .ok (.aload_n 2, 1) := by decide +kernel
theorem dL_law_130 : decode cL_law 130 = .ok (.getfield 30, 3) := by decide +kernel
theorem dL_law_133 : decode cL_law 133 = .ok (.putfield 30, 3) := by decide +kernel
theorem dL_law_136 : decode cL_law 136 = .ok (.aload 4, 2) := by decide +kernel
theorem dL_law_138 : decode cL_law 138 = .ok (.invokevirtual 34, 3) := by decide +kernel
theorem dL_law_141 : decode cL_law 141 = .ok (.lstore 10, 2) := by decide +kernel
theorem dL_law_143 : decode cL_law 143 = .ok (.aload 4, 2) := by decide +kernel
theorem dL_law_145 : decode cL_law 145 = .ok (.iload 7, 2) := by decide +kernel
theorem dL_law_147 : decode cL_law 147 = .ok (.iconst 1, 1) := by decide +kernel
theorem dL_law_148 : decode cL_law 148 = .ok (.iload 8, 2) := by decide +kernel
theorem dL_law_150 : decode cL_law 150 = .ok (.invokevirtual 40, 3) := by decide +kernel
theorem dL_law_153 : decode cL_law 153 = .ok (.istore 12, 2) := by decide +kernel
theorem dL_law_155 : decode cL_law 155 = .ok (.aload 4, 2) := by decide +kernel
theorem dL_law_157 : decode cL_law 157 = .ok (.iload 8, 2) := by decide +kernel
theorem dL_law_159 : decode cL_law 159 = .ok (.invokevirtual 44, 3) := by decide +kernel
theorem dL_law_162 : decode cL_law 162 = .ok (.istore 13, 2) := by decide +kernel
theorem dL_law_164 : decode cL_law 164 = .ok (.aload 4, 2) := by decide +kernel
theorem dL_law_166 : decode cL_law 166 = .ok (.iload 6, 2) := by decide +kernel
theorem dL_law_168 : decode cL_law 168 = .ok (.iconst 4, 1) := by decide +kernel
theorem dL_law_169 : decode cL_law 169 = .ok (.invokevirtual 47, 3) := by decide +kernel
theorem dL_law_172 : decode cL_law 172 = .ok (.iconst 1, 1) := by decide +kernel
theorem dL_law_173 : decode cL_law 173 = .ok (.if_icmp .ne 7, 3) := by decide +kernel
theorem dL_law_176 : decode cL_law 176 = .ok (.iconst (-1), 1) := by decide +kernel
theorem dL_law_177 : decode cL_law 177 = .ok (.goto 12, 3) := by decide +kernel
theorem dL_law_180 : decode cL_law 180 = .ok (.aload 4, 2) := by decide +kernel
theorem dL_law_182 : decode cL_law 182 = .ok (.iload 6, 2) := by decide +kernel
theorem dL_law_184 : decode cL_law 184 = .ok (.iload 8, 2) := by decide +kernel
theorem dL_law_186 : decode cL_law 186 = .ok (.invokevirtual 51, 3) := by decide +kernel
theorem dL_law_189 : decode cL_law 189 = .ok (.istore 14, 2) := by decide +kernel
theorem dL_law_191 : decode cL_law 191 = .ok (.aload 4, 2) := by decide +kernel
theorem dL_law_193 : decode cL_law 193 = .ok (.invokevirtual 34, 3) := by decide +kernel
theorem dL_law_196 : decode cL_law 196 = .ok (.lload 10, 2) := by decide +kernel
theorem dL_law_198 : decode cL_law 198 = .ok (.lcmp, 1) := by decide +kernel
theorem dL_law_199 : decode cL_law 199 = .ok (.ifCond .ne 16, 3) := by decide +kernel
theorem dL_law_202 : decode cL_law 202 = .ok (.aload_n 3, 1) := by decide +kernel
theorem dL_law_203 : decode cL_law 203 = .ok (.getfield 14, 3) := by decide +kernel
theorem dL_law_206 : decode cL_law 206 = .ok (.invokevirtual 34, 3) := by decide +kernel
theorem dL_law_209 : decode cL_law 209 = .ok (.lload 10, 2) := by decide +kernel
theorem dL_law_211 : decode cL_law 211 = .ok (.lcmp, 1) := by decide +kernel
theorem dL_law_212 : decode cL_law 212 = .ok (.ifCond .eq 5, 3) := by decide +kernel
theorem dL_law_215 : decode cL_law 215 = .ok (.iconst 0, 1) := by decide +kernel
theorem dL_law_216 : decode cL_law 216 = .ok (.ireturn, 1) := by decide +kernel
theorem dL_law_217 : decode cL_law 217 = .ok (.iload 5, 2) := by decide +kernel
theorem dL_law_219 : decode cL_law 219 = .ok (.iconst 3, 1) := by decide +kernel
theorem dL_law_220 : decode cL_law 220 = .ok (.irem, 1) := by decide +kernel
theorem dL_law_221 : decode cL_law 221 = .ok (.ifCond .ne 86, 3) := by decide +kernel
theorem dL_law_224 : decode cL_law 224 = .ok (.aload 4, 2) := by decide +kernel
theorem dL_law_226 : decode cL_law 226 = .ok (.iconst 0, 1) := by decide +kernel
theorem dL_law_227 : decode cL_law 227 = .ok (.invokevirtual 54, 3) := by decide +kernel
theorem dL_law_230 : decode cL_law 230 = .ok (.istore 15, 2) := by decide +kernel
theorem dL_law_232 : decode cL_law 232 = .ok (.aload 4, 2) := by decide +kernel
theorem dL_law_234 : decode cL_law 234 = .ok (.invokevirtual 57, 3) := by decide +kernel
theorem dL_law_237 : decode cL_law 237 = .ok (.istore 16, 2) := by decide +kernel
theorem dL_law_239 : decode cL_law 239 = .ok (.aload_n 3, 1) := by decide +kernel
theorem dL_law_240 : decode cL_law 240 = .ok (.getfield 14, 3) := by decide +kernel
theorem dL_law_243 : decode cL_law 243 = .ok (.invokevirtual 57, 3) := by decide +kernel
theorem dL_law_246 : decode cL_law 246 = .ok (.iload 16, 2) := by decide +kernel
theorem dL_law_248 : decode cL_law 248 = .ok (.if_icmp .ne 57, 3) := by decide +kernel
theorem dL_law_251 : decode cL_law 251 = .ok (.aload 4, 2) := by decide +kernel
theorem dL_law_253 : decode cL_law 253 = .ok (.iconst 0, 1) := by decide +kernel
theorem dL_law_254 : decode cL_law 254 = .ok (.invokevirtual 54, 3) := by decide +kernel
theorem dL_law_257 : decode cL_law 257 = .ok (.iload 16, 2) := by decide +kernel
theorem dL_law_259 : decode cL_law 259 = .ok (.if_icmp .ne 46, 3) := by decide +kernel
theorem dL_law_262 : decode cL_law 262 = .ok (.iload 16, 2) := by decide +kernel
theorem dL_law_264 : decode cL_law 264 = .ok (.iload 15, 2) := by decide +kernel
theorem dL_law_266 : decode cL_law 266 = .ok (.isub, 1) := by decide +kernel
theorem dL_law_267 : decode cL_law 267 = .ok (.aload 4, 2) := by decide +kernel
theorem dL_law_269 : decode cL_law 269 = .ok (.iconst 1, 1) := by decide +kernel
theorem dL_law_270 : decode cL_law 270 = .ok (.invokevirtual 54, 3) := by decide +kernel
theorem dL_law_273 : decode cL_law 273 = .ok (.aload 4, 2) := by decide +kernel
theorem dL_law_275 : decode cL_law 275 = .ok (.iconst 2, 1) := by decide +kernel
theorem dL_law_276 : decode cL_law 276 = .ok (.invokevirtual 54, 3) := by decide +kernel
theorem dL_law_279 : decode cL_law 279 = .ok (.iadd, 1) := by decide +kernel
theorem dL_law_280 : decode cL_law 280 = .ok (.aload 4, 2) := by decide +kernel
theorem dL_law_282 : decode cL_law 282 = .ok (.iconst 3, 1) := by decide +kernel
theorem dL_law_283 : decode cL_law 283 = .ok (.invokevirtual 54, 3) := by decide +kernel
theorem dL_law_286 : decode cL_law 286 = .ok (.iadd, 1) := by decide +kernel
theorem dL_law_287 : decode cL_law 287 = .ok (.if_icmp .ne 18, 3) := by decide +kernel
theorem dL_law_290 : decode cL_law 290 = .ok (.aload 4, 2) := by decide +kernel
theorem dL_law_292 : decode cL_law 292 = .ok (.iconst 4, 1) := by decide +kernel
theorem dL_law_293 : decode cL_law 293 = .ok (.invokevirtual 54, 3) := by decide +kernel
theorem dL_law_296 : decode cL_law 296 = .ok (.aload 4, 2) := by decide +kernel
theorem dL_law_298 : decode cL_law 298 = .ok (.iconst 0, 1) := by decide +kernel
theorem dL_law_299 : decode cL_law 299 = .ok (.invokevirtual 61, 3) := by decide +kernel
theorem dL_law_302 : decode cL_law 302 = .ok (.if_icmp .eq 5, 3) := by decide +kernel
theorem dL_law_305 : decode cL_law 305 = .ok (.iconst 0, 1) := by decide +kernel
theorem dL_law_306 : decode cL_law 306 = .ok (.ireturn, 1) := by decide +kernel
theorem dL_law_307 : decode cL_law 307 = .ok (.iload 14, 2) := by decide +kernel
theorem dL_law_309 : decode cL_law 309 = .ok (.ifCond .lt 104, 3) := by decide +kernel
theorem dL_law_312 : decode cL_law 312 = .ok (.iload 5, 2) := by decide +kernel
end
section
theorem dL_law_314 : decode cL_law 314 = .ok (.iconst 2, 1) := by decide +kernel
theorem dL_law_315 : decode cL_law 315 = .ok (.irem, 1) := by decide +kernel
theorem dL_law_316 : decode cL_law 316 = .ok (.ifCond .ne 97, 3) := by decide +kernel
theorem dL_law_319 : decode cL_law 319 = .ok (.aload_n 3, 1) := by decide +kernel
theorem dL_law_320 : decode cL_law 320 = .ok (.getfield 14, 3) := by decide +kernel
theorem dL_law_323 : decode cL_law 323 = .ok (.iload 6, 2) := by decide +kernel
theorem dL_law_325 : decode cL_law 325 = .ok (.iload 14, 2) := by decide +kernel
theorem dL_law_327 : decode cL_law 327 = .ok (.invokevirtual 64, 3) := by decide +kernel
theorem dL_law_330 : decode cL_law 330 = .ok (.pop, 1) := by decide +kernel
theorem dL_law_331 : decode cL_law 331 = .ok (.aload_n 3, 1) := by decide +kernel
theorem dL_law_332 : decode cL_law 332 = .ok (.getfield 14, 3) := by decide +kernel
theorem dL_law_335 : decode cL_law 335 = .ok (.iload 8, 2) := by decide +kernel
theorem dL_law_337 : decode cL_law 337 = .ok (.invokevirtual 44, 3) := by decide +kernel
theorem dL_law_340 : decode cL_law 340 = .ok (.istore 15, 2) := by decide +kernel
theorem dL_law_342 : decode cL_law 342 = .ok (.aload_n 3, 1) := by decide +kernel
theorem dL_law_343 : decode cL_law 343 = .ok (.getfield 14, 3) := by decide +kernel
theorem dL_law_346 : decode cL_law 346 = .ok (.iload 6, 2) := by decide +kernel
theorem dL_law_348 : decode cL_law 348 = .ok (.iload 9, 2) := by decide +kernel
theorem dL_law_350 : decode cL_law 350 = .ok (.invokevirtual 64, 3) := by decide +kernel
theorem dL_law_353 : decode cL_law 353 = .ok (.pop, 1) := by decide +kernel
theorem dL_law_354 : decode cL_law 354 = .ok (.aload_n 3, 1) := by decide +kernel
theorem dL_law_355 : decode cL_law 355 = .ok (.getfield 14, 3) := by decide +kernel
theorem dL_law_358 : decode cL_law 358 = .ok (.iload 8, 2) := by decide +kernel
theorem dL_law_360 : decode cL_law 360 = .ok (.invokevirtual 44, 3) := by decide +kernel
theorem dL_law_363 : decode cL_law 363 = .ok (.istore 16, 2) := by decide +kernel
theorem dL_law_365 : decode cL_law 365 = .ok (.aload_n 3, 1) := by decide +kernel
theorem dL_law_366 : decode cL_law 366 = .ok (.getfield 14, 3) := by decide +kernel
theorem dL_law_369 : decode cL_law 369 = .ok (.iload 6, 2) := by decide +kernel
theorem dL_law_371 : decode cL_law 371 = .ok (.aload 4, 2) := by decide +kernel
theorem dL_law_373 : decode cL_law 373 = .ok (.iload 6, 2) := by decide +kernel
theorem dL_law_375 : decode cL_law 375 = .ok (.iconst 2, 1) := by decide +kernel
theorem dL_law_376 : decode cL_law 376 = .ok (.invokevirtual 47, 3) := by decide +kernel
theorem dL_law_379 : decode cL_law 379 = .ok (.invokevirtual 64, 3) := by decide +kernel
theorem dL_law_382 : decode cL_law 382 = .ok (.pop, 1) := by decide +kernel
theorem dL_law_383 : decode cL_law 383 = .ok (.iload 15, 2) := by decide +kernel
theorem dL_law_385 : decode cL_law 385 = .ok (.iload 13, 2) := by decide +kernel
theorem dL_law_387 : decode cL_law 387 = .ok (.if_icmp .lt 24, 3) := by decide +kernel
theorem dL_law_390 : decode cL_law 390 = .ok (.iload 16, 2) := by decide +kernel
theorem dL_law_392 : decode cL_law 392 = .ok (.iload 15, 2) := by decide +kernel
theorem dL_law_394 : decode cL_law 394 = .ok (.if_icmp .gt 17, 3) := by decide +kernel
theorem dL_law_397 : decode cL_law 397 = .ok (.iload 16, 2) := by decide +kernel
theorem dL_law_399 : decode cL_law 399 = .ok (.iload 15, 2) := by decide +kernel
theorem dL_law_401 : decode cL_law 401 = .ok (.if_icmp .ne 12, 3) := by decide +kernel
theorem dL_law_404 : decode cL_law 404 = .ok (.iload 9, 2) := by decide +kernel
theorem dL_law_406 : decode cL_law 406 = .ok (.iload 14, 2) := by decide +kernel
theorem dL_law_408 : decode cL_law 408 = .ok (.if_icmp .ge 5, 3) := by decide +kernel
theorem dL_law_411 : decode cL_law 411 = .ok (.iconst 0, 1) := by decide +kernel
theorem dL_law_412 : decode cL_law 412 = .ok (.ireturn, 1) := by decide +kernel
theorem dL_law_413 : decode cL_law 413 = .ok (.aload_n 3, 1) := by decide +kernel
theorem dL_law_414 : decode cL_law 414 = .ok (.getfield 14, 3) := by decide +kernel
theorem dL_law_417 : decode cL_law 417 = .ok (.iload 7, 2) := by decide +kernel
theorem dL_law_419 : decode cL_law 419 = .ok (.iconst 1, 1) := by decide +kernel
theorem dL_law_420 : decode cL_law 420 = .ok (.iconst 0, 1) := by decide +kernel
theorem dL_law_421 : decode cL_law 421 = .ok (.invokevirtual 67, 3) := by decide +kernel
theorem dL_law_424 : decode cL_law 424 = .ok (.istore 15, 2) := by decide +kernel
theorem dL_law_426 : decode cL_law 426 = .ok (.aload_n 3, 1) := by decide +kernel
theorem dL_law_427 : decode cL_law 427 = .ok (.getfield 14, 3) := by decide +kernel
theorem dL_law_430 : decode cL_law 430 = .ok (.iload 8, 2) := by decide +kernel
theorem dL_law_432 : decode cL_law 432 = .ok (.invokevirtual 44, 3) := by decide +kernel
theorem dL_law_435 : decode cL_law 435 = .ok (.iload 13, 2) := by decide +kernel
theorem dL_law_437 : decode cL_law 437 = .ok (.iload 12, 2) := by decide +kernel
theorem dL_law_439 : decode cL_law 439 = .ok (.iadd, 1) := by decide +kernel
theorem dL_law_440 : decode cL_law 440 = .ok (.if_icmp .ne 13, 3) := by decide +kernel
theorem dL_law_443 : decode cL_law 443 = .ok (.iload 15, 2) := by decide +kernel
theorem dL_law_445 : decode cL_law 445 = .ok (.ifCond .ne 10, 3) := by decide +kernel
theorem dL_law_448 : decode cL_law 448 = .ok (.iload 12, 2) := by decide +kernel
theorem dL_law_450 : decode cL_law 450 = .ok (.ifCond .eq 5, 3) := by decide +kernel
theorem dL_law_453 : decode cL_law 453 = .ok (.iconst 0, 1) := by decide +kernel
theorem dL_law_454 : decode cL_law 454 = .ok (.ireturn, 1) := by decide +kernel
theorem dL_law_455 : decode cL_law 455 = .ok (.aload_n 3, 1) := by decide +kernel
theorem dL_law_456 : decode cL_law 456 = .ok (.getfield 14, 3) := by decide +kernel
theorem dL_law_459 : decode cL_law 459 = .ok (.iload 7, 2) := by decide +kernel
theorem dL_law_461 : decode cL_law 461 = .ok (.iconst 1, 1) := by decide +kernel
theorem dL_law_462 : decode cL_law 462 = .ok (.iload 15, 2) := by decide +kernel
theorem dL_law_464 : decode cL_law 464 = .ok (.invokevirtual 67, 3) := by decide +kernel
theorem dL_law_467 : decode cL_law 467 = .ok (.pop, 1) := by decide +kernel
theorem dL_law_468 : decode cL_law 468 = .ok (.aload 4, 2) := by decide +kernel
theorem dL_law_470 : decode cL_law 470 = .ok (.iload 8, 2) := by decide +kernel
theorem dL_law_472 : decode cL_law 472 = .ok (.invokevirtual 71, 3) := by decide +kernel
theorem dL_law_475 : decode cL_law 475 = .ok (.iload 13, 2) := by decide +kernel
theorem dL_law_477 : decode cL_law 477 = .ok (.if_icmp .ne 33, 3) := by decide +kernel
theorem dL_law_480 : decode cL_law 480 = .ok (.aload_n 3, 1) := by decide +kernel
theorem dL_law_481 : decode cL_law 481 = .ok (.getfield 14, 3) := by decide +kernel
theorem dL_law_484 : decode cL_law 484 = .ok (.iload 8, 2) := by decide +kernel
theorem dL_law_486 : decode cL_law 486 = .ok (.invokevirtual 71, 3) := by decide +kernel
theorem dL_law_489 : decode cL_law 489 = .ok (.iload 13, 2) := by decide +kernel
theorem dL_law_491 : decode cL_law 491 = .ok (.if_icmp .ne 19, 3) := by decide +kernel
theorem dL_law_494 : decode cL_law 494 = .ok (.aload 4, 2) := by decide +kernel
theorem dL_law_496 : decode cL_law 496 = .ok (.invokevirtual 34, 3) := by decide +kernel
theorem dL_law_499 : decode cL_law 499 = .ok (.aload_n 3, 1) := by decide +kernel
theorem dL_law_500 : decode cL_law 500 = .ok (.getfield 14, 3) := by decide +kernel
theorem dL_law_503 : decode cL_law 503 = .ok (.invokevirtual 34, 3) := by decide +kernel
theorem dL_law_506 : decode cL_law 506 = .ok (.lcmp, 1) := by decide +kernel
theorem dL_law_507 : decode cL_law 507 = .ok (.ifCond .eq 5, 3) := by decide +kernel
theorem dL_law_510 : decode cL_law 510 = .ok (.iconst 0, 1) := by decide +kernel
theorem dL_law_511 : decode cL_law 511 = .ok (.ireturn, 1) := by decide +kernel
theorem dL_law_512 : decode cL_law 512 = .ok (.iconst 0, 1) := by decide +kernel
theorem dL_law_513 : decode cL_law 513 = .ok (.istore 16, 2) := by decide +kernel
theorem dL_law_515 : decode cL_law 515 = .ok (.iload 16, 2) := by decide +kernel
theorem dL_law_517 : decode cL_law 517 = .ok (.iconst 3, 1) := by decide +kernel
theorem dL_law_518 : decode cL_law 518 = .ok (.if_icmp .ge 31, 3) := by decide +kernel
theorem dL_law_521 : decode cL_law 521 = .ok (.aload_n 2, 1) := by decide +kernel
theorem dL_law_522 : decode cL_law 522 = .ok (.getfield 74, 3) := by decide +kernel
theorem dL_law_525 : decode cL_law 525 = .ok (.iload 16, 2) := by decide +kernel
theorem dL_law_527 : decode cL_law 527 = .ok (.aaload, 1) := by decide +kernel
theorem dL_law_528 : decode cL_law 528 = .ok (.bipush 13, 2) := by decide +kernel
theorem dL_law_530 : decode cL_law 530 = .ok (.aload_n 3, 1) := by decide +kernel
theorem dL_law_531 : decode cL_law 531 = .ok (.getfield 74, 3) := by decide +kernel
theorem dL_law_534 : decode cL_law 534 = .ok (.iload 16, 2) := by decide +kernel
theorem dL_law_536 : decode cL_law 536 = .ok (.aaload, 1) := by decide +kernel
theorem dL_law_537 : decode cL_law 537 = .ok (.bipush 13, 2) := by decide +kernel
theorem dL_law_539 : decode cL_law 539 = .ok (.iconst 0, 1) := by decide +kernel
theorem dL_law_540 : decode cL_law 540 = .ok (.dup_x2, 1) := by decide +kernel
theorem dL_law_541 : decode cL_law 541 = .ok (.iastore, 1) := by decide +kernel
theorem dL_law_542 : decode cL_law 542 = .ok (.iastore, 1) := by decide +kernel
theorem dL_law_543 : decode cL_law 543 = .ok (.iinc 16 1, 3) := by decide +kernel
theorem dL_law_546 : decode cL_law 546 = .ok (.goto (-31), 3) := by decide +kernel
theorem dL_law_549 : decode cL_law 549 = .ok (.iinc 5 1, 3) := by decide +kernel
theorem dL_law_552 : decode cL_law 552 = .ok (.goto (-486), 3) := by decide +kernel
theorem dL_law_555 : decode cL_law 555 = .ok (.iinc 1 1, 3) := by decide +kernel
theorem dL_law_558 : decode cL_law 558 = .ok (.goto (-556), 3) := by decide +kernel
theorem dL_law_561 : decode cL_law 561 = .ok (.iconst 1, 1) := by decide +kernel
theorem dL_law_562 : decode cL_law 562 = .ok (.ireturn, 1) := by decide +kernel
abbrev vwCl : List vw_C := [(RX0, TX0, 8), (RX1, TX1, 4), (RX2, TX2, 12), (RX3, TX3, 4), (RX4, TX4, 5), (RX5, TX5, 5), (RX6, TX6, 11), (RX7, TX7, 13)]
end
section
/-! a run of cells, and what is known of each; int memories -/
section
/-- the run of n cells from lo on, each with what w says of it -/
def rl (lo n : Nat) (w : Nat → va_E) : va_W := (List.range n).map fun k => (lo + k, w (lo + k))
theorem rl_at {lo n a : Nat} {w : Nat → va_E} (h1 : lo ≤ a) (h2 : a < lo + n) : (rl lo n w)[a - lo]? = some (a, w a) := by
  unfold rl
  rw [List.getElem?_map, List.getElem?_range (by omega)]
  show some (lo + (a - lo), w (lo + (a - lo))) = _
  rw [show lo + (a - lo) = a by omega]
theorem rl_get {lo n k : Nat} {w : Nat → va_E} {q : Nat × va_E} (h : (rl lo n w)[k]? = some q) : k < n ∧ q = (lo + k, w (lo + k)) := by
  unfold rl at h
  rw [List.getElem?_map] at h
  rcases Nat.lt_or_ge k n with hk | hk
  · rw [List.getElem?_range hk] at h
    exact ⟨hk, (Option.some.inj h).symm⟩
  · rw [List.getElem?_eq_none (by simpa using hk)] at h
    cases h
theorem rl_len (lo n : Nat) (w : Nat → va_E) : (rl lo n w).length = n := by simp [rl]
theorem rl_ext {lo n : Nat} {w w' : Nat → va_E} (h : ∀ a, lo ≤ a → a < lo + n → w a = w' a) : rl lo n w = rl lo n w' := by
  unfold rl
  refine List.map_congr_left fun k hk => ?_
  rw [h (lo + k) (by omega) (by have := List.mem_range.mp hk; omega)]
theorem rl_set {lo n a : Nat} {w : Nat → va_E} (e : va_E) (h1 : lo ≤ a) (h2 : a < lo + n) : (rl lo n w).set (a - lo) (a, e) = rl lo n (va_up w a e) := by
  refine List.ext_getElem? fun i => ?_
  rw [List.getElem?_set, rl_len]
  unfold rl
  rw [List.getElem?_map, List.getElem?_map]
  rcases Nat.lt_or_ge i n with hi | hi
  · rw [List.getElem?_range hi]
    by_cases hx : a - lo = i
    · rw [if_pos hx, if_pos (by omega)]
      show _ = some (lo + i, va_up w a e (lo + i))
      rw [show lo + i = a by omega]
      simp [va_up]
    · rw [if_neg hx]
      show some (lo + i, w (lo + i)) = some (lo + i, va_up w a e (lo + i))
      rw [show va_up w a e (lo + i) = w (lo + i) by unfold va_up; rw [if_neg (by omega)]]
  · rw [List.getElem?_eq_none (by simpa using hi)]
    by_cases hx : a - lo = i
    · omega
    · rw [if_neg hx]
      rfl
theorem rl_D (lo n : Nat) (w : Nat → va_E) : va_D (fun q : Nat => lo ≤ q) (rl lo n w) := by
  refine ⟨fun i j p q hp hq h => ?_, fun k q hk => ?_⟩
  · obtain ⟨-, rfl⟩ := rl_get hp
    obtain ⟨-, rfl⟩ := rl_get hq
    have : lo + i = lo + j := h
    omega
  · obtain ⟨-, rfl⟩ := rl_get hk
    exact Nat.le_add_right lo k
theorem rl_P {D : va_G} {cl : List vw_C} {lo n : Nat} {w : Nat → va_E} {H : Heap} (h : ∀ a, lo ≤ a → a < lo + n → va_at D cl (a, w a) H) : va_P D cl (rl lo n w) H := by
  intro k q hk
  obtain ⟨hk', rfl⟩ := rl_get hk
  exact h _ (by omega) (by omega)
theorem rl_one {D : va_G} {cl : List vw_C} {lo n a : Nat} {w : Nat → va_E} {H : Heap} (h : va_P D cl (rl lo n w) H) (h1 : lo ≤ a) (h2 : a < lo + n) : va_at D cl (a, w a) H := h _ _ (rl_at h1 h2)
theorem xu_same {α : Type} (w : Nat → α) (a : Nat) (e : α) : va_up w a e a = e := by simp [va_up]
theorem xu_ne {α : Type} {w : Nat → α} {a b : Nat} {e : α} (h : b ≠ a) : va_up w a e b = w b := by simp [va_up, h]
/-- a memory of ints: a place, a part of it -/
abbrev Mem : Type := Nat → Nat → Int32
def u2 (M : Mem) (k j : Nat) (v : Int32) : Mem := fun a b => if a = k ∧ b = j then v else M a b
def sr (M : Mem) (k : Nat) (r : Nat → Int32) : Mem := fun a b => if a = k then r b else M a b
theorem u2_same (M : Mem) (k j : Nat) (v : Int32) : u2 M k j v k j = v := by simp [u2]
theorem u2_ne {M : Mem} {k j a b : Nat} {v : Int32} (h : ¬ (a = k ∧ b = j)) : u2 M k j v a b = M a b := by unfold u2; rw [if_neg h]
theorem u2_k {M : Mem} {k j a : Nat} {v : Int32} (h : a ≠ k) : u2 M k j v a = M a := by funext b; exact u2_ne (fun q => h q.1)
theorem sr_same (M : Mem) (k : Nat) (r : Nat → Int32) : sr M k r k = r := by funext b; simp [sr]
theorem sr_ne {M : Mem} {k a : Nat} {r : Nat → Int32} (h : a ≠ k) : sr M k r a = M a := by funext b; simp [sr, h]
theorem u2_row (M : Mem) (k j : Nat) (v : Int32) : u2 M k j v k = upd (M k) j v := by funext b; simp [u2, upd]
theorem sr_upd (M : Mem) (k j : Nat) (v : Int32) : sr M k (upd (M k) j v) = u2 M k j v := by
  funext a b
  by_cases h : a = k
  · subst h
    simp [sr, u2, upd]
  · simp [sr, u2, h]
/-- f 0, then f 1, .. f (n - 1) -/
def fo {α : Type} (f : Nat → α → α) : Nat → α → α
  | 0, x => x
  | n + 1, x => f n (fo f n x)
abbrev jmin (x y : Int32) : Int32 := if y < x then y else x
abbrev jmax (x y : Int32) : Int32 := if x < y then y else x
abbrev jminl (x y : Int64) : Int64 := if y < x then y else x
theorem br_le {x y : Int32} {a b : Nat} (hx : x = nI a) (hy : y = nI b) (ha : a < 2 ^ 31) (hb : b < 2 ^ 31) : x ≤ y ↔ a ≤ b := by subst hx; subst hy; exact nI_leI ha hb
theorem br_lt {x y : Int32} {a b : Nat} (hx : x = nI a) (hy : y = nI b) (ha : a < 2 ^ 31) (hb : b < 2 ^ 31) : x < y ↔ a < b := by subst hx; subst hy; exact nI_ltI ha hb
theorem br_eq {x y : Int32} {a b : Nat} (hx : x = nI a) (hy : y = nI b) (ha : a < 2 ^ 31) (hb : b < 2 ^ 31) : x = y ↔ a = b := by subst hx; subst hy; exact nI_eq ha hb
theorem nar_z {x : Int32} (h : x = 0 ∨ x = 1) : narrow .boolean (.int x) = .int x := by rcases h with rfl | rfl <;> rfl
theorem fit_z {x : Int32} (h : x = 0 ∨ x = 1) : fits .boolean (.int x) = true := by rcases h with rfl | rfl <;> rfl
theorem vp_in_of_nI {x : Int32} {i N : Nat} (h : x = nI i) (hi : i < N) (hN : N < 2 ^ 31) : vp_in x N := by rw [h]; exact vp_in_nI hi hN
theorem cl_of_nI {x : Int32} {i : Nat} (h : x = nI i) (hi : i < 2 ^ 31) : x.toNatClampNeg = i := by rw [h]; exact nI_clamp hi
end
/-! the kit's rows over one run of cells -/
section
variable {p : Program} {l : Launch} {e : Env} {R : Room} {s : State} {m : MethodId} {args : Array Value} {below : List Frame} {meth : Method} {c : Code} {H : Heap} {locs : List Loc} {cells slots : Nat} {Q : State → Prop}
variable {cc : ByteArray} {pc : Nat} {ls : Array Slot} {rest : List Value} {a : Nat} {D : va_G} {cl : List vw_C} {tys : List (ClassId × FieldType)} {H0 : Heap} {lo n : Nat} {w : Nat → va_E}
theorem x_get (hexec : p.tables.exec = Jvm.exec) (hb : c.code = cc) {own ref C : String} {T : u_T} {N ci index : Nat} {Ts : List Cond} (hts : ∀ w ∈ Ts, w.before args s = true) (hin : ∀ w ∈ u_ws C T N, w ∈ Ts) (hown : s.vm.findClass own = some m.cls) (hK : va_K D cl tys s) (hP : va_P D cl (rl lo n w) H) (h1 : lo ≤ a) (h2 : a < lo + n) {fs : List Value} (he : w a = .inr (ci, fs)) (hc : cl[ci]? = some (C, T, N)) (k : Nat) (hk : k < N) (hlink : (Cond.fieldLink own index ref (T k).2.1 (T k).2.2.1).before args s = true) (hsame : ∀ x, s.fieldFound? (T k).1 (T k).2.1 (T k).2.2.1 = some x → s.fieldFound? ref (T k).2.1 (T k).2.2.1 = some x) {v : Value} (hv : fs[k]? = some v) (hdg : decode cc pc = .ok (.getfield index, 3))
    (kk : W p l e R s m args below meth c H locs cells slots Q (F0 m (pc + 3) ls (v :: rest))) : W p l e R s m args below meth c H locs cells slots Q (F0 m pc ls (.ref a :: rest)) :=
  va_get hexec hb hts hin hown hK hP (a - lo) (by rw [rl_at h1 h2, he]) hc k hk hlink hsame hv hdg kk
theorem x_put (hexec : p.tables.exec = Jvm.exec) (hb : c.code = cc) {own ref C : String} {T : u_T} {N ci index : Nat} {Ts : List Cond} (hts : ∀ w ∈ Ts, w.before args s = true) (hin : ∀ w ∈ u_ws C T N, w ∈ Ts) (ty0 : Nat → FieldType) (hty : ∀ k, k < N → parseFieldDescriptor (T k).2.2.1 = some (ty0 k)) (hnm : ∀ a, a < N → ∀ b, b < N → a ≠ b → (T a).2.1 ≠ (T b).2.1) (hown : s.vm.findClass own = some m.cls) (hK : va_K D cl tys s) (hP : va_P D cl (rl lo n w) H) (hS : va_S (fun q : Nat => lo ≤ q) H0 H locs) (h1 : lo ≤ a) (h2 : a < lo + n) {fs : List Value} (he : w a = .inr (ci, fs)) (hc : cl[ci]? = some (C, T, N)) (k : Nat) (hk : k < N) (hlink : (Cond.fieldLink own index ref (T k).2.1 (T k).2.2.1).before args s = true) (hsame : ∀ x, s.fieldFound? (T k).1 (T k).2.1 (T k).2.2.1 = some x → s.fieldFound? ref (T k).2.1 (T k).2.2.1 = some x) (hfin : (T k).2.2.2 = false) {ty : FieldType} {v : Value} (hd : parseFieldDescriptor (T k).2.2.1 = some ty) (hn : narrow ty v = v) (hfit : fits ty v = true) (hl : k < fs.length)
    (hdg : decode cc pc = .ok (.putfield index, 3)) (kk : ∀ (H1 : Heap) (locs1 : List Loc), va_P D cl (rl lo n (va_up w a (.inr (ci, fs.set k v)))) H1 → va_S (fun q : Nat => lo ≤ q) H0 H1 locs1 → W p l e R s m args below meth c H1 locs1 cells slots Q (F0 m (pc + 3) ls rest)) : W p l e R s m args below meth c H locs cells slots Q (F0 m pc ls (v :: .ref a :: rest)) :=
  va_put hexec hb hts hin ty0 hty hnm hown hK hP (rl_D lo n w) hS (a - lo) (by rw [rl_at h1 h2, he]) hc k hk hlink hsame hfin hd hn hfit hl hdg fun H1 locs1 hP _ hS => kk H1 locs1 (by rw [rl_set _ h1 h2] at hP; exact hP) hS
theorem x_putF (hexec : p.tables.exec = Jvm.exec) (hb : c.code = cc) {own ref C : String} {T : u_T} {N ci index : Nat} {Ts : List Cond} (hts : ∀ w ∈ Ts, w.before args s = true) (hin : ∀ w ∈ u_ws C T N, w ∈ Ts) (ty0 : Nat → FieldType) (hty : ∀ k, k < N → parseFieldDescriptor (T k).2.2.1 = some (ty0 k)) (hnm : ∀ a, a < N → ∀ b, b < N → a ≠ b → (T a).2.1 ≠ (T b).2.1) (hown : s.vm.findClass own = some m.cls) (hK : va_K D cl tys s) (hP : va_P D cl (rl lo n w) H) (hS : va_S (fun q : Nat => lo ≤ q) H0 H locs) (h1 : lo ≤ a) (h2 : a < lo + n) {fs : List Value} (he : w a = .inr (ci, fs)) (hc : cl[ci]? = some (C, T, N)) (k : Nat) (hk : k < N) (hlink : (Cond.fieldLink own index ref (T k).2.1 (T k).2.2.1).before args s = true) (hsame : ∀ x, s.fieldFound? (T k).1 (T k).2.1 (T k).2.2.1 = some x → s.fieldFound? ref (T k).2.1 (T k).2.2.1 = some x) (hfin : (T k).2.2.2 = true) (hin2 : meth.name = "<init>") (hdecl : (T k).1 = own) {ty : FieldType} {v : Value} (hd : parseFieldDescriptor (T k).2.2.1 = some ty) (hn : narrow ty v = v) (hfit : fits ty v = true) (hl : k < fs.length)
    (hdg : decode cc pc = .ok (.putfield index, 3)) (kk : ∀ (H1 : Heap) (locs1 : List Loc), va_P D cl (rl lo n (va_up w a (.inr (ci, fs.set k v)))) H1 → va_S (fun q : Nat => lo ≤ q) H0 H1 locs1 → W p l e R s m args below meth c H1 locs1 cells slots Q (F0 m (pc + 3) ls rest)) : W p l e R s m args below meth c H locs cells slots Q (F0 m pc ls (v :: .ref a :: rest)) :=
  va_putF hexec hb hts hin ty0 hty hnm hown hK hP (rl_D lo n w) hS (a - lo) (by rw [rl_at h1 h2, he]) hc k hk hlink hsame hfin hin2 hdecl hd hn hfit hl hdg fun H1 locs1 hP _ hS => kk H1 locs1 (by rw [rl_set _ h1 h2] at hP; exact hP) hS
theorem x_iald (hexec : p.tables.exec = Jvm.exec) (hb : c.code = cc) (hK : va_K D cl tys s) (hP : va_P D cl (rl lo n w) H) (h1 : lo ≤ a) (h2 : a < lo + n) (t0 : Nat) {cA : ClassId} {N : Nat} {f : Nat → Int32} (ha : w a = .inl (cA, N, .inl f)) (ht : tys[t0]? = some (cA, .int)) {x : Int32} {i : Nat} (hi : x.toNatClampNeg = i) (hin : vp_in x N) (hdg : decode cc pc = .ok (.iaload, 1))
    (kk : W p l e R s m args below meth c H locs cells slots Q (F0 m (pc + 1) ls (.int (f i) :: rest))) : W p l e R s m args below meth c H locs cells slots Q (F0 m pc ls (.int x :: .ref a :: rest)) := by
  subst hi
  exact va_iald hexec hb hK hP (a - lo) t0 (by rw [rl_at h1 h2, ha]) ht hin hdg kk
theorem x_iast (hexec : p.tables.exec = Jvm.exec) (hb : c.code = cc) (hK : va_K D cl tys s) (hP : va_P D cl (rl lo n w) H) (hS : va_S (fun q : Nat => lo ≤ q) H0 H locs) (h1 : lo ≤ a) (h2 : a < lo + n) (t0 : Nat) {cA : ClassId} {N : Nat} {f : Nat → Int32} (ha : w a = .inl (cA, N, .inl f)) (ht : tys[t0]? = some (cA, .int)) {x v : Int32} {i : Nat} (hi : x.toNatClampNeg = i) (hin : vp_in x N) (hdg : decode cc pc = .ok (.iastore, 1))
    (kk : ∀ (H1 : Heap) (locs1 : List Loc), va_P D cl (rl lo n (va_up w a (.inl (cA, N, .inl (upd f i v))))) H1 → va_S (fun q : Nat => lo ≤ q) H0 H1 locs1 → W p l e R s m args below meth c H1 locs1 cells slots Q (F0 m (pc + 1) ls rest)) : W p l e R s m args below meth c H locs cells slots Q (F0 m pc ls (.int v :: .int x :: .ref a :: rest)) := by
  subst hi
  exact va_iast hexec hb hK hP (rl_D lo n w) hS (a - lo) t0 (by rw [rl_at h1 h2, ha]) ht hin hdg fun H1 locs1 hP _ hS => kk H1 locs1 (by rw [rl_set _ h1 h2] at hP; exact hP) hS
theorem x_aald (hexec : p.tables.exec = Jvm.exec) (hb : c.code = cc) (hK : va_K D cl tys s) (hP : va_P D cl (rl lo n w) H) (h1 : lo ≤ a) (h2 : a < lo + n) (t0 : Nat) {cA : ClassId} {C : String} {N : Nat} {f : Nat → Option Nat} (ha : w a = .inl (cA, N, .inr (.inr (.inr (.inr f))))) (ht : tys[t0]? = some (cA, .object C)) {x : Int32} {i b : Nat} (hi : x.toNatClampNeg = i) (hf : f i = some b) (hin : vp_in x N) (hdg : decode cc pc = .ok (.aaload, 1))
    (kk : W p l e R s m args below meth c H locs cells slots Q (F0 m (pc + 1) ls (.ref b :: rest))) : W p l e R s m args below meth c H locs cells slots Q (F0 m pc ls (.int x :: .ref a :: rest)) := by
  subst hi
  refine va_aldq hexec hb hK hP (a - lo) t0 (by rw [rl_at h1 h2, ha]) ht hin hdg ?_
  rw [hf]
  exact kk
theorem x_copyi (hexec : p.tables.exec = Jvm.exec) (hb : c.code = cc) (hml : c.maxLocals = ls.size) {own : String} {index : Nat} (hown : s.vm.findClass own = some m.cls) (hlink : (Cond.methodLink own index arraycopyName).before args s = true) (hnat : (Cond.native arraycopyName).before args s = true) (hstat : (Cond.static arraycopyName).before args s = true) (hini : (Cond.initialized "java/lang/System").before args s = true)
    (hK : va_K D cl tys s) (hP : va_P D cl (rl lo n w) H) (hS : va_S (fun q : Nat => lo ≤ q) H0 H locs) (t0 : Nat) {b : Nat} (h1 : lo ≤ a) (h2 : a < lo + n) (h3 : lo ≤ b) (h4 : b < lo + n) {cA : ClassId} {N0 N1 : Nat} {f g : Nat → Int32} (ha : w a = .inl (cA, N0, .inl f)) (hb2 : w b = .inl (cA, N1, .inl g)) (ht : tys[t0]? = some (cA, .int)) {k : Int32} {k' : Nat} (hk0 : ¬ k < 0) (hk : k.toNatClampNeg = k') (hk1 : k' ≤ N0) (hk2 : k' ≤ N1)
    (hframes : 1 ≤ R.frames) (hlocals : (rest.map fun v => v.category).sum + (nativeFrameWords "java/lang/System" "arraycopy" 5 + 11) ≤ R.locals) (hdg : decode cc pc = .ok (.invokestatic index, 3))
    (kk : ∀ (H1 : Heap) (locs1 : List Loc), va_P D cl (rl lo n (va_up w b (.inl (cA, N1, .inl (va_cpy f g 0 0 k'))))) H1 → va_S (fun q : Nat => lo ≤ q) H0 H1 locs1 → W p l e R s m args below meth c H1 locs1 cells slots Q (F0 m (pc + 3) ls rest)) : W p l e R s m args below meth c H locs cells slots Q (F0 m pc ls (.int k :: .int 0 :: .ref b :: .int 0 :: .ref a :: rest)) := by
  subst hk
  exact va_copyi hexec hb hml hown hlink hnat hstat hini hK hP (rl_D lo n w) hS (a - lo) (b - lo) t0 t0 (by rw [rl_at h1 h2, ha]) (by rw [rl_at h3 h4, hb2]) ht ht rfl (by decide) (by decide) hk0 (by show 0 + _ ≤ _; omega) (by show 0 + _ ≤ _; omega) (fun _ _ => rfl) hframes hlocals hdg fun H1 locs1 hP _ hS => kk H1 locs1 (by rw [rl_set _ h3 h4] at hP; exact hP) hS
/-- the heap has no more cells than have been made -/
theorem x_size {g : JFrame} (kk : H.size ≤ s.heap.size + cells → W p l e R s m args below meth c H locs cells slots Q g) : W p l e R s m args below meth c H locs cells slots Q g :=
  fun T hT X => kk (by rw [← hT]; exact X.same.2.2.1) T hT X
theorem rl_push (lo n : Nat) (w : Nat → va_E) (x : va_E) : rl lo n w ++ [(lo + n, x)] = rl lo (n + 1) (va_up w (lo + n) x) := by
  unfold rl
  rw [List.range_succ, List.map_append]
  congr 1
  · refine List.map_congr_left fun k hk => ?_
    rw [xu_ne (by have := List.mem_range.mp hk; omega)]
  · simp [va_up]
theorem x_q {lo n q : Nat} {w : Nat → va_E} {x : va_E} {H1 : Heap} (hz : H1.size ≤ lo + n + 1) (hP : va_P D cl (rl lo n w ++ [(q, x)]) H1) (hD : va_D (fun q : Nat => lo ≤ q) (rl lo n w ++ [(q, x)])) : q = lo + n := by
  have hi : (rl lo n w ++ [(q, x)])[n]? = some (q, x) := by
    rw [List.getElem?_append_right (by rw [rl_len]; exact Nat.le_refl n), rl_len, Nat.sub_self]
    rfl
  have h1 : q < H1.size := (hP n _ hi).lt
  have h2 : lo ≤ q := hD.2 n _ hi
  rcases Nat.lt_or_ge q (lo + n) with h | h
  · have hj : (rl lo n w ++ [(q, x)])[q - lo]? = some (q, w q) := by
      rw [List.getElem?_append_left (by rw [rl_len]; omega)]
      exact rl_at h2 h
    have := hD.1 n (q - lo) _ _ hi hj rfl
    omega
  · omega
theorem x_new (hexec : p.tables.exec = Jvm.exec) (hb : c.code = cc) {own C : String} {T : u_T} {N ci index : Nat} {Ts : List Cond} (hts : ∀ w ∈ Ts, w.before args s = true) (hin : ∀ w ∈ u_ws C T N, w ∈ Ts) (ty : Nat → FieldType) (hty : ∀ k, k < N → parseFieldDescriptor (T k).2.2.1 = some (ty k)) (hown : s.vm.findClass own = some m.cls) (hcl : (Cond.classLink own index C).before args s = true) (hinst : (Cond.instantiable C N).before args s = true) (hini : (Cond.initialized C).before args s = true)
    (hK : va_K D cl tys s) (hP : va_P D cl (rl lo n w) H) (hS : va_S (fun q : Nat => lo ≤ q) H0 H locs) (hlo : lo ≤ H0.size) (hz : s.heap.size + cells = lo + n) (hc : cl[ci]? = some (C, T, N)) {fs : List Value} (hfs : ∀ j, j < N → defaultValue (ty j) = vp_V fs j) (hcells : cells + 1 ≤ R.cells) (hslots : slots + N ≤ R.slots) (hdg : decode cc pc = .ok (.new index, 3))
    (kk : ∀ (H1 : Heap), va_P D cl (rl lo (n + 1) (va_up w (lo + n) (.inr (ci, fs)))) H1 → va_S (fun q : Nat => lo ≤ q) H0 H1 locs →
      W p l e R s m args below meth c H1 locs (cells + 1) (slots + N) Q (F0 m (pc + 3) ls (.ref (lo + n) :: rest))) : W p l e R s m args below meth c H locs cells slots Q (F0 m pc ls rest) := by
  refine va_new hexec hb hts hin ty hty hown hcl hinst hini hK hP (rl_D lo n w) hS (fun q h => Nat.le_trans hlo h) hc hfs hcells hslots hdg fun q H1 hP1 hD1 hS1 => ?_
  refine x_size fun hz1 => ?_
  obtain rfl := x_q (by omega) hP1 hD1
  rw [rl_push] at hP1
  exact kk H1 hP1 hS1
theorem x_newi (hexec : p.tables.exec = Jvm.exec) (hb : c.code = cc) (harr : (Cond.arrayClass (newarray.typeOf .int)).before args s = true) (hK : va_K D cl tys s) (hP : va_P D cl (rl lo n w) H) (hS : va_S (fun q : Nat => lo ≤ q) H0 H locs) (hlo : lo ≤ H0.size) (hz : s.heap.size + cells = lo + n)
    {k : Int32} {N : Nat} (t0 : Nat) {cA : ClassId} (ht : tys[t0]? = some (cA, .int)) (hn : ¬ k < 0) (hN : k.toNatClampNeg = N) (hbytes : N ≤ 65536) (hcells : cells + 1 ≤ R.cells) (hslots : slots + N ≤ R.slots) (hdg : decode cc pc = .ok (.newarray .int, 2))
    (kk : ∀ (H1 : Heap), va_P D cl (rl lo (n + 1) (va_up w (lo + n) (.inl (cA, N, .inl (fun _ => 0))))) H1 → va_S (fun q : Nat => lo ≤ q) H0 H1 locs →
      W p l e R s m args below meth c H1 locs (cells + 1) (slots + N) Q (F0 m (pc + 2) ls (.ref (lo + n) :: rest))) : W p l e R s m args below meth c H locs cells slots Q (F0 m pc ls (.int k :: rest)) := by
  refine va_newa (atype := .int) (ty := .int) (a0 := (N, .inl (fun _ => 0))) hexec hb harr rfl hK hP (rl_D lo n w) hS (fun q h => Nat.le_trans hlo h) (fun _ => rfl) hn hN (by show N * 4 ≤ _; omega) hcells hslots hdg fun q cB H1 hK1 hP1 hD1 hS1 => ?_
  refine x_size fun hz1 => ?_
  obtain rfl := x_q (by omega) hP1 hD1
  have hcB : cB = cA := by
    have h1 := (hK1.2 tys.length (cB, .int) (by simp)).2
    have h2 := (hK.2 t0 _ ht).2
    exact Option.some.inj (Eq.trans (Eq.symm h1) h2)
  subst hcB
  rw [rl_push] at hP1
  exact kk H1 hP1 hS1
theorem x_newq (hexec : p.tables.exec = Jvm.exec) (hb : c.code = cc) {own C : String} {index : Nat} (hown : s.vm.findClass own = some m.cls) (hclink : (Cond.classLink own index C).before args s = true) (hover : va_AO C s) (hK : va_K D cl tys s) (hP : va_P D cl (rl lo n w) H) (hS : va_S (fun q : Nat => lo ≤ q) H0 H locs) (hlo : lo ≤ H0.size) (hz : s.heap.size + cells = lo + n)
    {k : Int32} {N : Nat} (t0 : Nat) {cA : ClassId} (ht : tys[t0]? = some (cA, .object C)) (hn : ¬ k < 0) (hN : k.toNatClampNeg = N) (hbytes : N ≤ 65536) (hcells : cells + 1 ≤ R.cells) (hslots : slots + N ≤ R.slots) (hdg : decode cc pc = .ok (.anewarray index, 3))
    (kk : ∀ (H1 : Heap), va_P D cl (rl lo (n + 1) (va_up w (lo + n) (.inl (cA, N, .inr (.inr (.inr (.inr (fun _ => none)))))))) H1 → va_S (fun q : Nat => lo ≤ q) H0 H1 locs →
      W p l e R s m args below meth c H1 locs (cells + 1) (slots + N) Q (F0 m (pc + 3) ls (.ref (lo + n) :: rest))) : W p l e R s m args below meth c H locs cells slots Q (F0 m pc ls (.int k :: rest)) := by
  refine va_newq hexec hb hown hclink hover hK hP (rl_D lo n w) hS (fun q h => Nat.le_trans hlo h) hn hN (by omega) hcells hslots hdg fun q cB H1 hK1 hP1 hD1 hS1 => ?_
  refine x_size fun hz1 => ?_
  obtain rfl := x_q (by omega) hP1 hD1
  have hcB : cB = cA := by
    obtain ⟨_, _, _, _, _, h1⟩ := (hK1.2 tys.length (cB, .object C) (by simp)).2
    obtain ⟨_, _, _, _, _, h2⟩ := (hK.2 t0 _ ht).2
    exact Option.some.inj (Eq.trans (Eq.symm h1) h2)
  subst hcB
  rw [rl_push] at hP1
  exact kk H1 hP1 hS1
theorem x_aastq (hexec : p.tables.exec = Jvm.exec) (hb : c.code = cc) (hK : va_K D cl tys s) (hP : va_P D cl (rl lo n w) H) (hS : va_S (fun q : Nat => lo ≤ q) H0 H locs) (h1 : lo ≤ a) (h2 : a < lo + n) {v : Nat} (h3 : lo ≤ v) (h4 : v < lo + n) (t0 ci : Nat) {cA : ClassId} {r : vw_C} {N : Nat} {vs : List Value} {f : Nat → Option Nat} (ha : w a = .inl (cA, N, .inr (.inr (.inr (.inr f))))) (ht : tys[t0]? = some (cA, .object r.1)) (hv : w v = .inr (ci, vs)) (hc : cl[ci]? = some r) {x : Int32} {i : Nat} (hi : x.toNatClampNeg = i) (hin : vp_in x N) (hdg : decode cc pc = .ok (.aastore, 1))
    (kk : ∀ (H1 : Heap) (locs1 : List Loc), va_P D cl (rl lo n (va_up w a (.inl (cA, N, .inr (.inr (.inr (.inr (va_up f i (some v))))))))) H1 → va_S (fun q : Nat => lo ≤ q) H0 H1 locs1 → W p l e R s m args below meth c H1 locs1 cells slots Q (F0 m (pc + 1) ls rest)) : W p l e R s m args below meth c H locs cells slots Q (F0 m pc ls (.ref v :: .int x :: .ref a :: rest)) := by
  subst hi
  exact va_astq hexec hb hK hP (rl_D lo n w) hS (a - lo) t0 (v - lo) ci (by rw [rl_at h1 h2, ha]) ht (by rw [rl_at h3 h4, hv]) hc hin hdg fun H1 locs1 hP _ hS => kk H1 locs1 (by rw [rl_set _ h1 h2] at hP; exact hP) hS
theorem x_recv {a ci : Nat} {q : vw_C} {fs : List Value} (hK : va_K D cl tys s) (hP : va_P D cl (rl lo n w) H) (h1 : lo ≤ a) (h2 : a < lo + n) (hc : cl[ci]? = some q) (he : w a = .inr (ci, fs)) : ∃ cell : Cell, H[a]? = some cell ∧ cell.vm.isStatics = false ∧ s.vm.findClass q.1 = some cell.cls :=
  va_recv hK hP hc (q0 := a - lo) (by rw [rl_at h1 h2, he])
end
/-! what every contract stands on -/
section
variable {p : Program} {l : Launch} {e : Env} {R : Room} {s : State} {m : MethodId} {args : Array Value} {below : List Frame} {meth : Method} {c : Code} {H : Heap} {locs : List Loc} {cells slots : Nat} {Q : State → Prop}
variable {cc : ByteArray} {pc : Nat} {ls : Array Slot} {rest st0 : List Value} {a : Array Value} {D : va_G} {cy : Nat → ClassId} {H0 : Heap} {lo n : Nat} {w : Nat → va_E} {mc ms : Nat}
/-- the array classes: 0 int[], 1 Cell[], 2 Well[], 3 WellLog[], 4 Partner[] -/
def tyL (cy : Nat → ClassId) : List (ClassId × FieldType) := [(cy 0, .int), (cy 1, .object "PoreField$Cell"), (cy 2, .object "PoreField$Well"), (cy 3, .object "PoreField$WellLog"), (cy 4, .object "PoreField$Partner"), (cy 5, .boolean), (cy 6, .array .int), (cy 7, .array .boolean)]
/-- the classes and array classes, and the one private method that is called from a nest mate -/
def KK (D : va_G) (cy : Nat → ClassId) (U : State) : Prop := va_K D vwCl (tyL cy) U ∧ va_Nw (.methodLinkNest RX2 142 yX6_neighbour RX6) U
theorem KK.warm {U : State} (h : KK D cy s) (hW : s.WarmedH U.vm) : KK D cy U := ⟨va_K.moved hW.alike h.1, va_Nw.warmM hW h.2⟩
theorem KK.same {u U : State} (hv : u.vm = U.vm) (h : KK D cy u) : KK D cy U := ⟨va_K.moved (by rw [hv]; exact Vm.Alike.refl U.vm) h.1, va_Nw.same rfl hv h.2⟩
/-- a start: the arguments, the run of cells -/
def PcW (D : va_G) (cy : Nat → ClassId) (lo n : Nat) (w : Nat → va_E) (av : List Value) : Array Value → State → Prop := va_Pc av (fun U => va_P D vwCl (rl lo n w) U.heap ∧ KK D cy U)
abbrev QiW (D : va_G) (lo n : Nat) (w : Nat → va_E) (v : Int32) : Array Value → State → Outcome → State → Prop := va_Qi (fun (r : Int32) (_ : Unit) => r = v) (fun _ t => va_P D vwCl (rl lo n w) t.heap) (fun q : Nat => lo ≤ q)
abbrev QlW (D : va_G) (lo n : Nat) (w : Nat → va_E) (v : Int64) : Array Value → State → Outcome → State → Prop := va_Ql (fun (r : Int64) (_ : Unit) => r = v) (fun _ t => va_P D vwCl (rl lo n w) t.heap) (fun q : Nat => lo ≤ q)
abbrev QvW (D : va_G) (lo n : Nat) (w : Nat → va_E) : Array Value → State → Outcome → State → Prop := va_Qv (fun (_ : Unit) => True) (fun _ t => va_P D vwCl (rl lo n w) t.heap) (fun q : Nat => lo ≤ q)
theorem PcW.blind {av : List Value} : FrameBlind (PcW D cy lo n w av) := fun _ U g mk q => ⟨q.1, q.2.1, KK.same (u := U) (by rfl) q.2.2⟩
theorem preV {C : String} {b : Nat} {As : List Value} (hP : va_P D vwCl (rl lo n w) H) (hK : KK D cy s) (hr : ∃ cell : Cell, H[b]? = some cell ∧ cell.vm.isStatics = false ∧ s.vm.findClass C = some cell.cls) : PreV s H C b (PcW D cy lo n w (.ref b :: As)) As :=
  ⟨PcW.blind, hr, fun U hU hW => ⟨rfl, by rw [hU]; exact hP, hK.warm hW⟩⟩
theorem preS {As : List Value} (hP : va_P D vwCl (rl lo n w) H) (hK : KK D cy s) : PreS s H (PcW D cy lo n w As) As :=
  ⟨PcW.blind, fun U hU hW => ⟨rfl, by rw [hU]; exact hP, hK.warm hW⟩⟩
theorem x_calli {v : Int32} {w' : Nat → va_E} (hr : va_Run p l e R s m args below meth c H locs cells slots mc ms (F0 m pc ls st0) rest (QiW D lo n w' v a) (fun q : Nat => lo ≤ q)) (hS : va_S (fun q : Nat => lo ≤ q) H0 H locs)
    (kk : ∀ (H1 : Heap) (locs1 : List Loc), va_P D vwCl (rl lo n w') H1 → va_S (fun q : Nat => lo ≤ q) H0 H1 locs1 → W p l e R s m args below meth c H1 locs1 (cells + mc) (slots + ms) Q (F0 m (pc + 3) ls (.int v :: rest))) : W p l e R s m args below meth c H locs cells slots Q (F0 m pc ls st0) :=
  va_calli hr hS (fun _ _ h => h) (fun _ h => h) fun r u t H1 locs1 ht hvm hw hB _ _ hS1 => by
    subst hw
    exact kk H1 locs1 (by rw [← ht]; exact hB) hS1
theorem x_calll {v : Int64} {w' : Nat → va_E} (hr : va_Run p l e R s m args below meth c H locs cells slots mc ms (F0 m pc ls st0) rest (QlW D lo n w' v a) (fun q : Nat => lo ≤ q)) (hS : va_S (fun q : Nat => lo ≤ q) H0 H locs)
    (kk : ∀ (H1 : Heap) (locs1 : List Loc), va_P D vwCl (rl lo n w') H1 → va_S (fun q : Nat => lo ≤ q) H0 H1 locs1 → W p l e R s m args below meth c H1 locs1 (cells + mc) (slots + ms) Q (F0 m (pc + 3) ls (.long v :: rest))) : W p l e R s m args below meth c H locs cells slots Q (F0 m pc ls st0) :=
  va_calll hr hS (fun _ _ h => h) (fun _ h => h) fun r u t H1 locs1 ht hvm hw hB _ _ hS1 => by
    subst hw
    exact kk H1 locs1 (by rw [← ht]; exact hB) hS1
theorem x_callv {w' : Nat → va_E} (hr : va_Run p l e R s m args below meth c H locs cells slots mc ms (F0 m pc ls st0) rest (QvW D lo n w' a) (fun q : Nat => lo ≤ q)) (hS : va_S (fun q : Nat => lo ≤ q) H0 H locs)
    (kk : ∀ (H1 : Heap) (locs1 : List Loc), va_P D vwCl (rl lo n w') H1 → va_S (fun q : Nat => lo ≤ q) H0 H1 locs1 → W p l e R s m args below meth c H1 locs1 (cells + mc) (slots + ms) Q (F0 m (pc + 3) ls rest)) : W p l e R s m args below meth c H locs cells slots Q (F0 m pc ls st0) :=
  va_callv hr hS (fun _ _ h => h) (fun _ h => h) fun u t H1 locs1 ht hvm hw hB _ _ hS1 => kk H1 locs1 (by rw [← ht]; exact hB) hS1
theorem x_at {ws : va_W} {t : State} (ht : t.heap = H) (hP : va_P D vwCl ws H) : va_P D vwCl ws t.heap := by rw [ht]; exact hP
theorem x_entry {av : List Value} (hv : PcW D cy lo n w av args s) : args = av.toArray ∧ va_P D vwCl (rl lo n w) s.heap ∧ KK D cy s ∧ va_S (fun q : Nat => lo ≤ q) s.heap s.heap [] := ⟨hv.1, hv.2.1, hv.2.2, va_S.rf⟩
end
end
section
/-! a Ground: 49 cells from g on; its ints are a memory: row k is the cell g + k -/
section
/-- the cell g + k of a Ground at g, with the ints r -/
def gEr (cy : Nat → ClassId) (g k : Nat) (r : Nat → Int32) : va_E :=
  if k = 0 then .inr (2, [.ref (g + 1), .ref (g + 2), .int (r 2), .ref (g + 3), .int (r 4), .int (r 5), .int (r 6), .ref (g + 4), .int (r 8), .int (r 9), .int (r 10), .int (r 11)])
  else if k = 1 then .inl (cy 1, 16, .inr (.inr (.inr (.inr fun i => some (g + (5 + 2 * i))))))
  else if k = 2 then .inl (cy 2, 6, .inr (.inr (.inr (.inr fun i => some (g + (37 + 2 * i))))))
  else if k < 5 then .inl (cy 0, 3, .inl r)
  else if k < 37 then if k % 2 = 1 then .inr (1, [.int (r 0), .ref (g + (k + 1)), .int (r 2), .int (r 3)]) else .inl (cy 0, 3, .inl r)
  else if k % 2 = 1 then .inr (4, [.int (r 0), .int (r 1), .int (r 2), .int (r 3), .ref (g + (k + 1))]) else .inl (cy 0, 3, .inl r)
/-- w0, but a Ground with the ints M at g -/
def gw (cy : Nat → ClassId) (w0 : Nat → va_E) (g : Nat) (M : Mem) : Nat → va_E := fun a => if g ≤ a ∧ a < g + 49 then gEr cy g (a - g) (M (a - g)) else w0 a
variable {cy : Nat → ClassId} {w0 : Nat → va_E} {g : Nat} {M : Mem} {r : Nat → Int32} {i k : Nat}
theorem gw_at (hk : k < 49) : gw cy w0 g M (g + k) = gEr cy g k (M k) := by unfold gw; rw [if_pos (by omega), Nat.add_sub_cancel_left]
theorem gw_g : gw cy w0 g M g = gEr cy g 0 (M 0) := gw_at (k := 0) (by omega)
theorem gw_out {a : Nat} (h : a < g ∨ g + 49 ≤ a) : gw cy w0 g M a = w0 a := by unfold gw; rw [if_neg (by omega)]
theorem gEr_0 : gEr cy g 0 r = .inr (2, [.ref (g + 1), .ref (g + 2), .int (r 2), .ref (g + 3), .int (r 4), .int (r 5), .int (r 6), .ref (g + 4), .int (r 8), .int (r 9), .int (r 10), .int (r 11)]) := rfl
theorem gEr_1 : gEr cy g 1 r = .inl (cy 1, 16, .inr (.inr (.inr (.inr fun i => some (g + (5 + 2 * i)))))) := rfl
theorem gEr_2 : gEr cy g 2 r = .inl (cy 2, 6, .inr (.inr (.inr (.inr fun i => some (g + (37 + 2 * i)))))) := rfl
theorem gEr_3 : gEr cy g 3 r = .inl (cy 0, 3, .inl r) := rfl
theorem gEr_4 : gEr cy g 4 r = .inl (cy 0, 3, .inl r) := rfl
theorem gEr_cell (hi : i < 16) : gEr cy g (5 + 2 * i) r = .inr (1, [.int (r 0), .ref (g + (6 + 2 * i)), .int (r 2), .int (r 3)]) := by
  unfold gEr
  rw [if_neg (by omega), if_neg (by omega), if_neg (by omega), if_neg (by omega), if_pos (by omega), if_pos (by omega), show 5 + 2 * i + 1 = 6 + 2 * i by omega]
theorem gEr_fl (hi : i < 16) : gEr cy g (6 + 2 * i) r = .inl (cy 0, 3, .inl r) := by
  unfold gEr
  rw [if_neg (by omega), if_neg (by omega), if_neg (by omega), if_neg (by omega), if_pos (by omega), if_neg (by omega)]
theorem gEr_well (hi : i < 6) : gEr cy g (37 + 2 * i) r = .inr (4, [.int (r 0), .int (r 1), .int (r 2), .int (r 3), .ref (g + (38 + 2 * i))]) := by
  unfold gEr
  rw [if_neg (by omega), if_neg (by omega), if_neg (by omega), if_neg (by omega), if_neg (by omega), if_pos (by omega), show 37 + 2 * i + 1 = 38 + 2 * i by omega]
theorem gEr_gave (hi : i < 6) : gEr cy g (38 + 2 * i) r = .inl (cy 0, 3, .inl r) := by
  unfold gEr
  rw [if_neg (by omega), if_neg (by omega), if_neg (by omega), if_neg (by omega), if_neg (by omega), if_neg (by omega)]
theorem gw_cell (hi : i < 16) : gw cy w0 g M (g + (5 + 2 * i)) = .inr (1, [.int (M (5 + 2 * i) 0), .ref (g + (6 + 2 * i)), .int (M (5 + 2 * i) 2), .int (M (5 + 2 * i) 3)]) := by rw [gw_at (by omega), gEr_cell hi]
theorem gw_fl (hi : i < 16) : gw cy w0 g M (g + (6 + 2 * i)) = .inl (cy 0, 3, .inl (M (6 + 2 * i))) := by rw [gw_at (by omega), gEr_fl hi]
theorem gw_well (hi : i < 6) : gw cy w0 g M (g + (37 + 2 * i)) = .inr (4, [.int (M (37 + 2 * i) 0), .int (M (37 + 2 * i) 1), .int (M (37 + 2 * i) 2), .int (M (37 + 2 * i) 3), .ref (g + (38 + 2 * i))]) := by rw [gw_at (by omega), gEr_well hi]
theorem gw_gave (hi : i < 6) : gw cy w0 g M (g + (38 + 2 * i)) = .inl (cy 0, 3, .inl (M (38 + 2 * i))) := by rw [gw_at (by omega), gEr_gave hi]
theorem gw_0 : gw cy w0 g M g = .inr (2, [.ref (g + 1), .ref (g + 2), .int (M 0 2), .ref (g + 3), .int (M 0 4), .int (M 0 5), .int (M 0 6), .ref (g + 4), .int (M 0 8), .int (M 0 9), .int (M 0 10), .int (M 0 11)]) := gw_g
theorem gw_1 : gw cy w0 g M (g + 1) = .inl (cy 1, 16, .inr (.inr (.inr (.inr fun i => some (g + (5 + 2 * i)))))) := gw_at (by omega)
theorem gw_2 : gw cy w0 g M (g + 2) = .inl (cy 2, 6, .inr (.inr (.inr (.inr fun i => some (g + (37 + 2 * i)))))) := gw_at (by omega)
theorem gw_3 : gw cy w0 g M (g + 3) = .inl (cy 0, 3, .inl (M 3)) := gw_at (by omega)
theorem gw_4 : gw cy w0 g M (g + 4) = .inl (cy 0, 3, .inl (M 4)) := gw_at (by omega)
/-- an int array of a Ground -/
def gRow (k : Nat) : Prop := k < 49 ∧ ∀ (cy : Nat → ClassId) (g : Nat) (r : Nat → Int32), gEr cy g k r = .inl (cy 0, 3, .inl r)
theorem gRow_fl (hi : i < 16) : gRow (6 + 2 * i) := ⟨by omega, fun _ _ _ => gEr_fl hi⟩
theorem gRow_gave (hi : i < 6) : gRow (38 + 2 * i) := ⟨by omega, fun _ _ _ => gEr_gave hi⟩
theorem gRow_3 : gRow 3 := ⟨by omega, fun _ _ _ => rfl⟩
theorem gRow_4 : gRow 4 := ⟨by omega, fun _ _ _ => rfl⟩
theorem gw_row (h : gRow k) : gw cy w0 g M (g + k) = .inl (cy 0, 3, .inl (M k)) := by rw [gw_at h.1, h.2]
/-- a write -/
theorem gw_sr (hk : k < 49) {x : va_E} (hx : x = gEr cy g k r) : va_up (gw cy w0 g M) (g + k) x = gw cy w0 g (sr M k r) := by
  funext a
  rcases Nat.lt_or_ge a g with h | h
  · rw [xu_ne (by omega), gw_out (Or.inl h), gw_out (Or.inl h)]
  · obtain ⟨b, rfl⟩ := Nat.exists_eq_add_of_le h
    rcases Nat.lt_or_ge b 49 with h2 | h2
    · rw [gw_at h2]
      by_cases hb : b = k
      · subst hb
        rw [xu_same, sr_same, hx]
      · rw [xu_ne (by omega), gw_at h2, sr_ne hb]
    · rw [xu_ne (by omega), gw_out (Or.inr (by omega)), gw_out (Or.inr (by omega))]
theorem gw_u2 (hk : k < 49) {j : Nat} {v : Int32} {x : va_E} (hx : x = gEr cy g k (upd (M k) j v)) : va_up (gw cy w0 g M) (g + k) x = gw cy w0 g (u2 M k j v) := by rw [gw_sr hk hx, sr_upd]
theorem gw_u0 {j : Nat} {v : Int32} {x : va_E} (hx : x = gEr cy g 0 (upd (M 0) j v)) : va_up (gw cy w0 g M) g x = gw cy w0 g (u2 M 0 j v) := gw_u2 (k := 0) (by omega) hx
theorem gw_urow (h : gRow k) {j : Nat} {v : Int32} : va_up (gw cy w0 g M) (g + k) (.inl (cy 0, 3, .inl (upd (M k) j v))) = gw cy w0 g (u2 M k j v) := gw_u2 h.1 (h.2 _ _ _).symm
theorem gw_srow (h : gRow k) {r : Nat → Int32} : va_up (gw cy w0 g M) (g + k) (.inl (cy 0, 3, .inl r)) = gw cy w0 g (sr M k r) := gw_sr h.1 (h.2 _ _ _).symm
theorem gw_gw {N : Mem} : gw cy (gw cy w0 g M) g N = gw cy w0 g N := by
  funext a
  rcases Nat.lt_or_ge a g with h | h
  · rw [gw_out (Or.inl h), gw_out (Or.inl h), gw_out (Or.inl h)]
  · rcases Nat.lt_or_ge a (g + 49) with h2 | h2
    · unfold gw; rw [if_pos ⟨h, h2⟩, if_pos ⟨h, h2⟩]
    · rw [gw_out (Or.inr h2), gw_out (Or.inr h2), gw_out (Or.inr h2)]
theorem gw_ext {N : Mem} (h : ∀ k, k < 49 → M k = N k) : gw cy w0 g M = gw cy w0 g N := by
  funext a
  rcases Nat.lt_or_ge a g with h1 | h1
  · rw [gw_out (Or.inl h1), gw_out (Or.inl h1)]
  · rcases Nat.lt_or_ge a (g + 49) with h2 | h2
    · unfold gw; rw [if_pos ⟨h1, h2⟩, if_pos ⟨h1, h2⟩, h (a - g) (by omega)]
    · rw [gw_out (Or.inr h2), gw_out (Or.inr h2)]
end
section
variable {cy : Nat → ClassId} {w0 : Nat → va_E} {g k : Nat} {M : Mem} {r : Nat → Int32} {D : va_G} {lo n : Nat} {H : Heap} {x : va_E} {j : Nat} {v : Int32}
theorem gp (hP : va_P D vwCl (rl lo n (va_up (gw cy w0 g M) (g + k) x)) H) (hk : k < 49) (hx : x = gEr cy g k (upd (M k) j v)) : va_P D vwCl (rl lo n (gw cy w0 g (u2 M k j v))) H := by rw [gw_u2 hk hx] at hP; exact hP
theorem gp0 (hP : va_P D vwCl (rl lo n (va_up (gw cy w0 g M) g x)) H) (hx : x = gEr cy g 0 (upd (M 0) j v)) : va_P D vwCl (rl lo n (gw cy w0 g (u2 M 0 j v))) H := by rw [gw_u0 hx] at hP; exact hP
theorem gpr (hP : va_P D vwCl (rl lo n (va_up (gw cy w0 g M) (g + k) (.inl (cy 0, 3, .inl (upd (M k) j v))))) H) (h : gRow k) : va_P D vwCl (rl lo n (gw cy w0 g (u2 M k j v))) H := by rw [gw_urow h] at hP; exact hP
theorem gpc (hP : va_P D vwCl (rl lo n (va_up (gw cy w0 g M) (g + k) (.inl (cy 0, 3, .inl r)))) H) (h : gRow k) : va_P D vwCl (rl lo n (gw cy w0 g (sr M k r))) H := by rw [gw_srow h] at hP; exact hP
end
end
section
/-! the cells of a Ground -/
def m_all (M : Mem) (i : Nat) : Int32 := M (6 + 2 * i) 0 + M (6 + 2 * i) 1 + M (6 + 2 * i) 2
def m_pressure (M : Mem) (i : Nat) : Int32 := 100 * m_all M i / M (5 + 2 * i) 0
def m_flow (M : Mem) (i f : Nat) : Int64 := if nI f = 2 then 2 * (M (6 + 2 * i) f).toInt64 else (M (6 + 2 * i) f).toInt64
def m_mostTimes (M : Mem) (i f : Nat) (x : Int32) : Int32 := if M (6 + 2 * i) f ≤ 0 then m_all M i else if x < M (6 + 2 * i) f then (((x.toInt64 + 1) * (m_all M i).toInt64 - 1) / m_flow M i f).toInt32 else m_all M i
def m_isShut (M : Mem) (i : Nat) (b : Int32) : Int32 := if b = 0 then M (5 + 2 * i) 3 else M (5 + 2 * i) 2
def m_shut (M : Mem) (i : Nat) (b x : Int32) : Mem := if b = 0 then u2 M (5 + 2 * i) 3 x else u2 M (5 + 2 * i) 2 x
def m_mv (M : Mem) (i f : Nat) (t al : Int32) : Int32 := (jminl (M (6 + 2 * i) f).toInt64 (m_flow M i f * (jmin t al).toInt64 / al.toInt64)).toInt32
def m_mvs (i : Nat) (t al : Int32) (k2 f : Nat) (M : Mem) : Mem := u2 (u2 M (6 + 2 * i) f (M (6 + 2 * i) f - m_mv M i f t al)) k2 f ((u2 M (6 + 2 * i) f (M (6 + 2 * i) f - m_mv M i f t al)) k2 f + m_mv M i f t al)
def m_moveOut (M : Mem) (i : Nat) (t : Int32) (k2 : Nat) : Mem := if 0 < m_all M i then fo (m_mvs i t (m_all M i) k2) 3 M else M
theorem toInt64_ne0 {x : Int32} (h : ¬ x = 0) : ¬ x.toInt64 = 0 := fun q => h (by
  have := congrArg Int64.toInt q
  rw [Int32.toInt_toInt64] at this
  exact Int32.toInt_inj.mp this)
theorem flow_ne0 {M : Mem} {i f : Nat} (h : 0 < M (6 + 2 * i) f) : ¬ m_flow M i f = 0 := by
  have h1 : (0 : Int) < (M (6 + 2 * i) f).toInt := Int32.lt_iff_toInt_lt.mp h
  have h2 : (M (6 + 2 * i) f).toInt < 2 ^ 31 := Int32.toInt_lt _
  unfold m_flow
  intro q
  have q1 := congrArg Int64.toInt q
  split at q1
  · rw [Int64.toInt_mul, Int32.toInt_toInt64] at q1
    have e2 : (2 : Int64).toInt = 2 := by decide
    have e0 : (0 : Int64).toInt = 0 := by decide
    rw [e2, e0, Int.bmod_eq_of_le (by omega) (by omega)] at q1
    omega
  · rw [Int32.toInt_toInt64] at q1
    have e0 : (0 : Int64).toInt = 0 := by decide
    omega
theorem pos_ne0 {x : Int32} (h : 0 < x) : ¬ x = 0 := fun q => by subst q; exact absurd h (by decide)

set_option maxRecDepth 100000 in
set_option maxHeartbeats 4000000 in
/-- Cell.all -/
theorem c_X1_all (l : Launch) (D : va_G) (cy : Nat → ClassId) (lo n : Nat) (w0 : Nat → va_E) (g : Nat) (M : Mem) (hg1 : lo ≤ g) (hg2 : g + 49 ≤ lo + n) (i : Nat) (hi : i < 16)  : Met l yX1_all wsX1_all ({ frames := 0, cells := 0, slots := 0, locals := 0 }) (PcW D cy lo n (gw cy w0 g M) [.ref (g + (5 + 2 * i))]) (QiW D lo n (gw cy w0 g M) (m_all M i)) 0 0 (fun q : Nat => lo ≤ q) := by
  refine Met.ofW (cc := cX1_all) (maxL := 1) (ret := (some .int)) (by decide) rfl ?_
  intro p e s m args below meth c s₁ B hml hv
  obtain ⟨rfl, hP, hK, hS⟩ := x_entry hv
  have hx := B.exec
  have hb := B.bytes
  have hr := B.returns
  have hts := atoms_spec (ws := wsX1_all) B.pre
  have hown : s.vm.findClass RX1 = some m.cls := findClass_of_methodNamed B.named
  have hlocks := B.notSynchronized
  have iX1 : ∀ w ∈ u_ws RX1 TX1 4, w ∈ wsX1_all := by decide +kernel
  have hl := lv_entry ([.ref (g + (5 + 2 * i))]) (n := 1) (Nat.le_of_ble_eq_true rfl)
  rw [lg_entry_eq]
  generalize (lg_sl ([.ref (g + (5 + 2 * i))]) ++ List.replicate (1 - (lg_sl ([.ref (g + (5 + 2 * i))])).length) Slot.unset).toArray = ls at hl ⊢
  have hl : lv_has ls 1 [(0, .ref (g + (5 + 2 * i)))] := hl
  refine lv_aload_n hx hb dX1_all_0 rfl (lv_at hl 0 rfl) ?_
  refine x_get (ref := RX1) (C := RX1) (T := TX1) (N := 4) (ci := 1) (v := .ref (g + (6 + 2 * i))) hx hb hts iX1 hown hK.1 hP (by omega) (by omega) (gw_cell (by omega)) rfl 1 (by decide) (hts (.fieldLink RX1 15 "PoreField$Cell" "fluids" "[I") (by decide +kernel)) (fun _ h9 => h9) rfl dX1_all_1 ?_
  refine lv_iconst (v := 0) hx hb dX1_all_4 (by decide) ?_
  refine x_iald hx hb hK.1 hP (by omega) (by omega) 0 (gw_row (gRow_fl (by omega))) rfl (cl_of_nI (i := 0) rfl (by omega)) (vp_in_of_nI (i := 0) rfl (by omega) (by omega)) dX1_all_5 ?_
  refine lv_aload_n hx hb dX1_all_6 rfl (lv_at hl 0 rfl) ?_
  refine x_get (ref := RX1) (C := RX1) (T := TX1) (N := 4) (ci := 1) (v := .ref (g + (6 + 2 * i))) hx hb hts iX1 hown hK.1 hP (by omega) (by omega) (gw_cell (by omega)) rfl 1 (by decide) (hts (.fieldLink RX1 15 "PoreField$Cell" "fluids" "[I") (by decide +kernel)) (fun _ h9 => h9) rfl dX1_all_7 ?_
  refine lv_iconst (v := 1) hx hb dX1_all_10 (by decide) ?_
  refine x_iald hx hb hK.1 hP (by omega) (by omega) 0 (gw_row (gRow_fl (by omega))) rfl (cl_of_nI (i := 1) rfl (by omega)) (vp_in_of_nI (i := 1) rfl (by omega) (by omega)) dX1_all_11 ?_
  refine lv_iadd hx hb dX1_all_12 ?_
  refine lv_aload_n hx hb dX1_all_13 rfl (lv_at hl 0 rfl) ?_
  refine x_get (ref := RX1) (C := RX1) (T := TX1) (N := 4) (ci := 1) (v := .ref (g + (6 + 2 * i))) hx hb hts iX1 hown hK.1 hP (by omega) (by omega) (gw_cell (by omega)) rfl 1 (by decide) (hts (.fieldLink RX1 15 "PoreField$Cell" "fluids" "[I") (by decide +kernel)) (fun _ h9 => h9) rfl dX1_all_14 ?_
  refine lv_iconst (v := 2) hx hb dX1_all_17 (by decide) ?_
  refine x_iald hx hb hK.1 hP (by omega) (by omega) 0 (gw_row (gRow_fl (by omega))) rfl (cl_of_nI (i := 2) rfl (by omega)) (vp_in_of_nI (i := 2) rfl (by omega) (by omega)) dX1_all_18 ?_
  refine lv_iadd hx hb dX1_all_19 ?_
  exact W.iret (v := (((M (6 + 2 * i) 0) + (M (6 + 2 * i) 1)) + (M (6 + 2 * i) 2))) hx hb hr (fun tE ht hW => ⟨⟨(((M (6 + 2 * i) 0) + (M (6 + 2 * i) 1)) + (M (6 + 2 * i) 2)), (), rfl, rfl, x_at ht (hP)⟩, hS.F ht⟩) hS.2.2 dX1_all_20

set_option maxRecDepth 100000 in
set_option maxHeartbeats 4000000 in
/-- Cell.pressure -/
theorem c_X1_pressure (l : Launch) (D : va_G) (cy : Nat → ClassId) (lo n : Nat) (w0 : Nat → va_E) (g : Nat) (M : Mem) (hg1 : lo ≤ g) (hg2 : g + 49 ≤ lo + n) (i : Nat) (hi : i < 16) (hr0 : ¬ M (5 + 2 * i) 0 = 0) : Met l yX1_pressure wsX1_pressure ({ frames := 1, cells := 0, slots := 0, locals := 20 }) (PcW D cy lo n (gw cy w0 g M) [.ref (g + (5 + 2 * i))]) (QiW D lo n (gw cy w0 g M) (m_pressure M i)) 0 0 (fun q : Nat => lo ≤ q) := by
  refine Met.ofW (cc := cX1_pressure) (maxL := 1) (ret := (some .int)) (by decide) rfl ?_
  intro p e s m args below meth c s₁ B hml hv
  obtain ⟨rfl, hP, hK, hS⟩ := x_entry hv
  have hx := B.exec
  have hb := B.bytes
  have hr := B.returns
  have hts := atoms_spec (ws := wsX1_pressure) B.pre
  have hown : s.vm.findClass RX1 = some m.cls := findClass_of_methodNamed B.named
  have hlocks := B.notSynchronized
  have iX1 : ∀ w ∈ u_ws RX1 TX1 4, w ∈ wsX1_pressure := by decide +kernel
  have hl := lv_entry ([.ref (g + (5 + 2 * i))]) (n := 1) (Nat.le_of_ble_eq_true rfl)
  rw [lg_entry_eq]
  generalize (lg_sl ([.ref (g + (5 + 2 * i))]) ++ List.replicate (1 - (lg_sl ([.ref (g + (5 + 2 * i))])).length) Slot.unset).toArray = ls at hl ⊢
  have hl : lv_has ls 1 [(0, .ref (g + (5 + 2 * i)))] := hl
  refine lv_bipush (v := 100) hx hb dX1_pressure_0 (by decide) ?_
  refine lv_aload_n hx hb dX1_pressure_2 rfl (lv_at hl 0 rfl) ?_
  refine x_calli (va_runV (As := []) (rest := [.int (100 : Int32)]) ⟨hx, hb, hml, hown, hts⟩ (c_X1_all l D cy lo n w0 g M (by omega) (by omega) i (by omega)) (cwV 0 hts gX1_pressure_X1_all rfl rfl rfl (by decide +kernel) ⟨Nat.le_of_ble_eq_true rfl, Nat.le_of_ble_eq_true rfl⟩) (preV hP hK (x_recv (ci := 1) (q := (RX1, TX1, 4)) hK.1 hP (by omega) (by omega) rfl (gw_cell (by omega)))) rfl rfl hl.1 rfl (lv_room (Nat.le_of_ble_eq_true rfl)) dX1_pressure_3 ⟨Nat.le_of_ble_eq_true rfl, Nat.le_of_ble_eq_true rfl⟩) hS (fun H locs hP hS => ?_)
  refine lv_imul hx hb dX1_pressure_6 ?_
  refine lv_aload_n hx hb dX1_pressure_7 rfl (lv_at hl 0 rfl) ?_
  refine x_get (ref := RX1) (C := RX1) (T := TX1) (N := 4) (ci := 1) (v := .int (M (5 + 2 * i) 0)) hx hb hts iX1 hown hK.1 hP (by omega) (by omega) (gw_cell (by omega)) rfl 0 (by decide) (hts (.fieldLink RX1 9 "PoreField$Cell" "room" "I") (by decide +kernel)) (fun _ h9 => h9) rfl dX1_pressure_8 ?_
  refine lv_idiv hx hb dX1_pressure_11 hr0 ?_
  exact W.iret (v := (((100 : Int32) * (m_all M i)) / (M (5 + 2 * i) 0))) hx hb hr (fun tE ht hW => ⟨⟨(((100 : Int32) * (m_all M i)) / (M (5 + 2 * i) 0)), (), rfl, rfl, x_at ht (hP)⟩, hS.F ht⟩) hS.2.2 dX1_pressure_12

set_option maxRecDepth 100000 in
set_option maxHeartbeats 4000000 in
/-- Cell.flow -/
theorem c_X1_flow (l : Launch) (D : va_G) (cy : Nat → ClassId) (lo n : Nat) (w0 : Nat → va_E) (g : Nat) (M : Mem) (hg1 : lo ≤ g) (hg2 : g + 49 ≤ lo + n) (i : Nat) (hi : i < 16) (f : Nat) (hf : f < 3) : Met l yX1_flow wsX1_flow ({ frames := 0, cells := 0, slots := 0, locals := 0 }) (PcW D cy lo n (gw cy w0 g M) [.ref (g + (5 + 2 * i)), .int (nI f)]) (QlW D lo n (gw cy w0 g M) (m_flow M i f)) 0 0 (fun q : Nat => lo ≤ q) := by
  refine Met.ofW (cc := cX1_flow) (maxL := 2) (ret := (some .long)) (by decide) rfl ?_
  intro p e s m args below meth c s₁ B hml hv
  obtain ⟨rfl, hP, hK, hS⟩ := x_entry hv
  have hx := B.exec
  have hb := B.bytes
  have hr := B.returns
  have hts := atoms_spec (ws := wsX1_flow) B.pre
  have hown : s.vm.findClass RX1 = some m.cls := findClass_of_methodNamed B.named
  have hlocks := B.notSynchronized
  have iX1 : ∀ w ∈ u_ws RX1 TX1 4, w ∈ wsX1_flow := by decide +kernel
  have hl := lv_entry ([.ref (g + (5 + 2 * i)), .int (nI f)]) (n := 2) (Nat.le_of_ble_eq_true rfl)
  rw [lg_entry_eq]
  generalize (lg_sl ([.ref (g + (5 + 2 * i)), .int (nI f)]) ++ List.replicate (2 - (lg_sl ([.ref (g + (5 + 2 * i)), .int (nI f)])).length) Slot.unset).toArray = ls at hl ⊢
  have hl : lv_has ls 2 [(0, .ref (g + (5 + 2 * i))), (1, .int (nI f))] := hl
  refine lv_iload_n hx hb dX1_flow_0 rfl (lv_at hl 1 rfl) ?_
  refine lv_iconst (v := 2) hx hb dX1_flow_1 (by decide) ?_
  refine lv_icmp_ne (tgt := 19) hx hb dX1_flow_2 (by decide) (fun c_2 => ?_) (fun c_2 => ?_)
  · refine lv_aload_n hx hb dX1_flow_19 rfl (lv_at hl 0 rfl) ?_
    refine x_get (ref := RX1) (C := RX1) (T := TX1) (N := 4) (ci := 1) (v := .ref (g + (6 + 2 * i))) hx hb hts iX1 hown hK.1 hP (by omega) (by omega) (gw_cell (by omega)) rfl 1 (by decide) (hts (.fieldLink RX1 15 "PoreField$Cell" "fluids" "[I") (by decide +kernel)) (fun _ h9 => h9) rfl dX1_flow_20 ?_
    refine lv_iload_n hx hb dX1_flow_23 rfl (lv_at hl 1 rfl) ?_
    refine x_iald hx hb hK.1 hP (by omega) (by omega) 0 (gw_row (gRow_fl (by omega))) rfl (cl_of_nI (i := f) rfl (by omega)) (vp_in_of_nI (i := f) rfl (by omega) (by omega)) dX1_flow_24 ?_
    refine lv_i2l hx hb dX1_flow_25 rfl ?_
    exact W.lret (v := ((M (6 + 2 * i) f).toInt64)) hx hb hr (fun tE ht hW => ⟨⟨((M (6 + 2 * i) f).toInt64), (), rfl, by simp only [m_flow, if_neg c_2], x_at ht (hP)⟩, hS.F ht⟩) hS.2.2 dX1_flow_26
  · refine lv_ldc2 (own := RX1) (v := 2) hx hb hown (hts (.constantLong RX1 36 (2)) (by decide +kernel)) dX1_flow_5 ?_
    refine lv_aload_n hx hb dX1_flow_8 rfl (lv_at hl 0 rfl) ?_
    refine x_get (ref := RX1) (C := RX1) (T := TX1) (N := 4) (ci := 1) (v := .ref (g + (6 + 2 * i))) hx hb hts iX1 hown hK.1 hP (by omega) (by omega) (gw_cell (by omega)) rfl 1 (by decide) (hts (.fieldLink RX1 15 "PoreField$Cell" "fluids" "[I") (by decide +kernel)) (fun _ h9 => h9) rfl dX1_flow_9 ?_
    refine lv_iload_n hx hb dX1_flow_12 rfl (lv_at hl 1 rfl) ?_
    refine x_iald hx hb hK.1 hP (by omega) (by omega) 0 (gw_row (gRow_fl (by omega))) rfl (cl_of_nI (i := f) rfl (by omega)) (vp_in_of_nI (i := f) rfl (by omega) (by omega)) dX1_flow_13 ?_
    refine lv_i2l hx hb dX1_flow_14 rfl ?_
    refine lv_lmul hx hb dX1_flow_15 ?_
    refine lv_goto (tgt := 26) hx hb dX1_flow_16 (by decide) ?_
    exact W.lret (v := ((2 : Int64) * ((M (6 + 2 * i) f).toInt64))) hx hb hr (fun tE ht hW => ⟨⟨((2 : Int64) * ((M (6 + 2 * i) f).toInt64)), (), rfl, by simp only [m_flow, if_pos c_2], x_at ht (hP)⟩, hS.F ht⟩) hS.2.2 dX1_flow_26

set_option maxRecDepth 100000 in
set_option maxHeartbeats 4000000 in
/-- Cell.mostTimes -/
theorem c_X1_mostTimes (l : Launch) (D : va_G) (cy : Nat → ClassId) (lo n : Nat) (w0 : Nat → va_E) (g : Nat) (M : Mem) (hg1 : lo ≤ g) (hg2 : g + 49 ≤ lo + n) (i : Nat) (hi : i < 16) (f : Nat) (hf : f < 3) (x : Int32) : Met l yX1_mostTimes wsX1_mostTimes ({ frames := 1, cells := 0, slots := 0, locals := 21 }) (PcW D cy lo n (gw cy w0 g M) [.ref (g + (5 + 2 * i)), .int (nI f), .int x]) (QiW D lo n (gw cy w0 g M) (m_mostTimes M i f x)) 0 0 (fun q : Nat => lo ≤ q) := by
  refine Met.ofW (cc := cX1_mostTimes) (maxL := 3) (ret := (some .int)) (by decide) rfl ?_
  intro p e s m args below meth c s₁ B hml hv
  obtain ⟨rfl, hP, hK, hS⟩ := x_entry hv
  have hx := B.exec
  have hb := B.bytes
  have hr := B.returns
  have hts := atoms_spec (ws := wsX1_mostTimes) B.pre
  have hown : s.vm.findClass RX1 = some m.cls := findClass_of_methodNamed B.named
  have hlocks := B.notSynchronized
  have iX1 : ∀ w ∈ u_ws RX1 TX1 4, w ∈ wsX1_mostTimes := by decide +kernel
  have hl := lv_entry ([.ref (g + (5 + 2 * i)), .int (nI f), .int x]) (n := 3) (Nat.le_of_ble_eq_true rfl)
  rw [lg_entry_eq]
  generalize (lg_sl ([.ref (g + (5 + 2 * i)), .int (nI f), .int x]) ++ List.replicate (3 - (lg_sl ([.ref (g + (5 + 2 * i)), .int (nI f), .int x])).length) Slot.unset).toArray = ls at hl ⊢
  have hl : lv_has ls 3 [(0, .ref (g + (5 + 2 * i))), (1, .int (nI f)), (2, .int x)] := hl
  refine lv_aload_n hx hb dX1_mostTimes_0 rfl (lv_at hl 0 rfl) ?_
  refine x_get (ref := RX1) (C := RX1) (T := TX1) (N := 4) (ci := 1) (v := .ref (g + (6 + 2 * i))) hx hb hts iX1 hown hK.1 hP (by omega) (by omega) (gw_cell (by omega)) rfl 1 (by decide) (hts (.fieldLink RX1 15 "PoreField$Cell" "fluids" "[I") (by decide +kernel)) (fun _ h9 => h9) rfl dX1_mostTimes_1 ?_
  refine lv_iload_n hx hb dX1_mostTimes_4 rfl (lv_at hl 1 rfl) ?_
  refine x_iald hx hb hK.1 hP (by omega) (by omega) 0 (gw_row (gRow_fl (by omega))) rfl (cl_of_nI (i := f) rfl (by omega)) (vp_in_of_nI (i := f) rfl (by omega) (by omega)) dX1_mostTimes_5 ?_
  refine lv_if_le (tgt := 19) hx hb dX1_mostTimes_6 (by decide) (fun c_6 => ?_) (fun c_6 => ?_)
  · refine lv_aload_n hx hb dX1_mostTimes_19 rfl (lv_at hl 0 rfl) ?_
    refine x_calli (va_runV (As := []) (rest := []) ⟨hx, hb, hml, hown, hts⟩ (c_X1_all l D cy lo n w0 g M (by omega) (by omega) i (by omega)) (cwV 0 hts gX1_mostTimes_X1_all rfl rfl rfl (by decide +kernel) ⟨Nat.le_of_ble_eq_true rfl, Nat.le_of_ble_eq_true rfl⟩) (preV hP hK (x_recv (ci := 1) (q := (RX1, TX1, 4)) hK.1 hP (by omega) (by omega) rfl (gw_cell (by omega)))) rfl rfl hl.1 rfl (lv_room (Nat.le_of_ble_eq_true rfl)) dX1_mostTimes_20 ⟨Nat.le_of_ble_eq_true rfl, Nat.le_of_ble_eq_true rfl⟩) hS (fun H locs hP hS => ?_)
    exact W.iret (v := (m_all M i)) hx hb hr (fun tE ht hW => ⟨⟨(m_all M i), (), rfl, by simp only [m_mostTimes, if_pos c_6], x_at ht (hP)⟩, hS.F ht⟩) hS.2.2 dX1_mostTimes_23
  · refine lv_aload_n hx hb dX1_mostTimes_9 rfl (lv_at hl 0 rfl) ?_
    refine x_get (ref := RX1) (C := RX1) (T := TX1) (N := 4) (ci := 1) (v := .ref (g + (6 + 2 * i))) hx hb hts iX1 hown hK.1 hP (by omega) (by omega) (gw_cell (by omega)) rfl 1 (by decide) (hts (.fieldLink RX1 15 "PoreField$Cell" "fluids" "[I") (by decide +kernel)) (fun _ h9 => h9) rfl dX1_mostTimes_10 ?_
    refine lv_iload_n hx hb dX1_mostTimes_13 rfl (lv_at hl 1 rfl) ?_
    refine x_iald hx hb hK.1 hP (by omega) (by omega) 0 (gw_row (gRow_fl (by omega))) rfl (cl_of_nI (i := f) rfl (by omega)) (vp_in_of_nI (i := f) rfl (by omega) (by omega)) dX1_mostTimes_14 ?_
    refine lv_iload_n hx hb dX1_mostTimes_15 rfl (lv_at hl 2 rfl) ?_
    refine lv_icmp_gt (tgt := 24) hx hb dX1_mostTimes_16 (by decide) (fun c_16 => ?_) (fun c_16 => ?_)
    · refine lv_iload_n hx hb dX1_mostTimes_24 rfl (lv_at hl 2 rfl) ?_
      refine lv_i2l hx hb dX1_mostTimes_25 rfl ?_
      refine lv_lconst (v := 1) hx hb dX1_mostTimes_26 rfl ?_
      refine lv_ladd hx hb dX1_mostTimes_27 ?_
      refine lv_aload_n hx hb dX1_mostTimes_28 rfl (lv_at hl 0 rfl) ?_
      refine x_calli (va_runV (As := []) (rest := [.long ((x.toInt64) + (1 : Int64))]) ⟨hx, hb, hml, hown, hts⟩ (c_X1_all l D cy lo n w0 g M (by omega) (by omega) i (by omega)) (cwV 0 hts gX1_mostTimes_X1_all rfl rfl rfl (by decide +kernel) ⟨Nat.le_of_ble_eq_true rfl, Nat.le_of_ble_eq_true rfl⟩) (preV hP hK (x_recv (ci := 1) (q := (RX1, TX1, 4)) hK.1 hP (by omega) (by omega) rfl (gw_cell (by omega)))) rfl rfl hl.1 rfl (lv_room (Nat.le_of_ble_eq_true rfl)) dX1_mostTimes_29 ⟨Nat.le_of_ble_eq_true rfl, Nat.le_of_ble_eq_true rfl⟩) hS (fun H locs hP hS => ?_)
      refine lv_i2l hx hb dX1_mostTimes_32 rfl ?_
      refine lv_lmul hx hb dX1_mostTimes_33 ?_
      refine lv_lconst (v := 1) hx hb dX1_mostTimes_34 rfl ?_
      refine lv_lsub hx hb dX1_mostTimes_35 ?_
      refine lv_aload_n hx hb dX1_mostTimes_36 rfl (lv_at hl 0 rfl) ?_
      refine lv_iload_n hx hb dX1_mostTimes_37 rfl (lv_at hl 1 rfl) ?_
      refine x_calll (va_runV (As := [.int (nI f)]) (rest := [.long ((((x.toInt64) + (1 : Int64)) * ((m_all M i).toInt64)) - (1 : Int64))]) ⟨hx, hb, hml, hown, hts⟩ (c_X1_flow l D cy lo n w0 g M (by omega) (by omega) i (by omega) f (by omega)) (cwV 1 hts gX1_mostTimes_X1_flow rfl rfl rfl (by decide +kernel) ⟨Nat.le_of_ble_eq_true rfl, Nat.le_of_ble_eq_true rfl⟩) (preV hP hK (x_recv (ci := 1) (q := (RX1, TX1, 4)) hK.1 hP (by omega) (by omega) rfl (gw_cell (by omega)))) rfl rfl hl.1 rfl (lv_room (Nat.le_of_ble_eq_true rfl)) dX1_mostTimes_38 ⟨Nat.le_of_ble_eq_true rfl, Nat.le_of_ble_eq_true rfl⟩) hS (fun H locs hP hS => ?_)
      refine lv_ldiv hx hb dX1_mostTimes_41 (flow_ne0 (Int32.not_le.mp c_6)) ?_
      refine lv_l2i hx hb dX1_mostTimes_42 rfl ?_
      exact W.iret (v := ((((((x.toInt64) + (1 : Int64)) * ((m_all M i).toInt64)) - (1 : Int64)) / (m_flow M i f)).toInt32)) hx hb hr (fun tE ht hW => ⟨⟨((((((x.toInt64) + (1 : Int64)) * ((m_all M i).toInt64)) - (1 : Int64)) / (m_flow M i f)).toInt32), (), rfl, by simp only [m_mostTimes, if_neg c_6, if_pos c_16], x_at ht (hP)⟩, hS.F ht⟩) hS.2.2 dX1_mostTimes_43
    · refine lv_aload_n hx hb dX1_mostTimes_19 rfl (lv_at hl 0 rfl) ?_
      refine x_calli (va_runV (As := []) (rest := []) ⟨hx, hb, hml, hown, hts⟩ (c_X1_all l D cy lo n w0 g M (by omega) (by omega) i (by omega)) (cwV 0 hts gX1_mostTimes_X1_all rfl rfl rfl (by decide +kernel) ⟨Nat.le_of_ble_eq_true rfl, Nat.le_of_ble_eq_true rfl⟩) (preV hP hK (x_recv (ci := 1) (q := (RX1, TX1, 4)) hK.1 hP (by omega) (by omega) rfl (gw_cell (by omega)))) rfl rfl hl.1 rfl (lv_room (Nat.le_of_ble_eq_true rfl)) dX1_mostTimes_20 ⟨Nat.le_of_ble_eq_true rfl, Nat.le_of_ble_eq_true rfl⟩) hS (fun H locs hP hS => ?_)
      exact W.iret (v := (m_all M i)) hx hb hr (fun tE ht hW => ⟨⟨(m_all M i), (), rfl, by simp only [m_mostTimes, if_neg c_6, if_neg c_16], x_at ht (hP)⟩, hS.F ht⟩) hS.2.2 dX1_mostTimes_23

set_option maxRecDepth 100000 in
set_option maxHeartbeats 4000000 in
/-- Cell.isShut -/
theorem c_X1_isShut (l : Launch) (D : va_G) (cy : Nat → ClassId) (lo n : Nat) (w0 : Nat → va_E) (g : Nat) (M : Mem) (hg1 : lo ≤ g) (hg2 : g + 49 ≤ lo + n) (i : Nat) (hi : i < 16) (b : Int32) (hB : (M (5 + 2 * i) 2 = 0 ∨ M (5 + 2 * i) 2 = 1) ∧ (M (5 + 2 * i) 3 = 0 ∨ M (5 + 2 * i) 3 = 1)) : Met l yX1_isShut wsX1_isShut ({ frames := 0, cells := 0, slots := 0, locals := 0 }) (PcW D cy lo n (gw cy w0 g M) [.ref (g + (5 + 2 * i)), .int b]) (QiW D lo n (gw cy w0 g M) (m_isShut M i b)) 0 0 (fun q : Nat => lo ≤ q) := by
  refine Met.ofW (cc := cX1_isShut) (maxL := 2) (ret := (some .boolean)) (by decide) rfl ?_
  intro p e s m args below meth c s₁ B hml hv
  obtain ⟨rfl, hP, hK, hS⟩ := x_entry hv
  have hx := B.exec
  have hb := B.bytes
  have hr := B.returns
  have hts := atoms_spec (ws := wsX1_isShut) B.pre
  have hown : s.vm.findClass RX1 = some m.cls := findClass_of_methodNamed B.named
  have hlocks := B.notSynchronized
  have iX1 : ∀ w ∈ u_ws RX1 TX1 4, w ∈ wsX1_isShut := by decide +kernel
  have hl := lv_entry ([.ref (g + (5 + 2 * i)), .int b]) (n := 2) (Nat.le_of_ble_eq_true rfl)
  rw [lg_entry_eq]
  generalize (lg_sl ([.ref (g + (5 + 2 * i)), .int b]) ++ List.replicate (2 - (lg_sl ([.ref (g + (5 + 2 * i)), .int b])).length) Slot.unset).toArray = ls at hl ⊢
  have hl : lv_has ls 2 [(0, .ref (g + (5 + 2 * i))), (1, .int b)] := hl
  refine lv_iload_n hx hb dX1_isShut_0 rfl (lv_at hl 1 rfl) ?_
  refine lv_if_eq (tgt := 11) hx hb dX1_isShut_1 (by decide) (fun c_1 => ?_) (fun c_1 => ?_)
  · refine lv_aload_n hx hb dX1_isShut_11 rfl (lv_at hl 0 rfl) ?_
    refine x_get (ref := RX1) (C := RX1) (T := TX1) (N := 4) (ci := 1) (v := .int (M (5 + 2 * i) 3)) hx hb hts iX1 hown hK.1 hP (by omega) (by omega) (gw_cell (by omega)) rfl 3 (by decide) (hts (.fieldLink RX1 29 "PoreField$Cell" "isShutSouth" "Z") (by decide +kernel)) (fun _ h9 => h9) rfl dX1_isShut_12 ?_
    exact W.zret (v := (M (5 + 2 * i) 3)) hx hb hr (nar_z hB.2) (fun tE ht hW => ⟨⟨(M (5 + 2 * i) 3), (), rfl, by simp only [m_isShut, if_pos c_1], x_at ht (hP)⟩, hS.F ht⟩) hS.2.2 dX1_isShut_15
  · refine lv_aload_n hx hb dX1_isShut_4 rfl (lv_at hl 0 rfl) ?_
    refine x_get (ref := RX1) (C := RX1) (T := TX1) (N := 4) (ci := 1) (v := .int (M (5 + 2 * i) 2)) hx hb hts iX1 hown hK.1 hP (by omega) (by omega) (gw_cell (by omega)) rfl 2 (by decide) (hts (.fieldLink RX1 25 "PoreField$Cell" "isShutEast" "Z") (by decide +kernel)) (fun _ h9 => h9) rfl dX1_isShut_5 ?_
    refine lv_goto (tgt := 15) hx hb dX1_isShut_8 (by decide) ?_
    exact W.zret (v := (M (5 + 2 * i) 2)) hx hb hr (nar_z hB.1) (fun tE ht hW => ⟨⟨(M (5 + 2 * i) 2), (), rfl, by simp only [m_isShut, if_neg c_1], x_at ht (hP)⟩, hS.F ht⟩) hS.2.2 dX1_isShut_15

set_option maxRecDepth 100000 in
set_option maxHeartbeats 4000000 in
/-- Cell.shut -/
theorem c_X1_shut (l : Launch) (D : va_G) (cy : Nat → ClassId) (lo n : Nat) (w0 : Nat → va_E) (g : Nat) (M : Mem) (hg1 : lo ≤ g) (hg2 : g + 49 ≤ lo + n) (i : Nat) (hi : i < 16) (b x : Int32) (hx01 : x = 0 ∨ x = 1) : Met l yX1_shut wsX1_shut ({ frames := 0, cells := 0, slots := 0, locals := 0 }) (PcW D cy lo n (gw cy w0 g M) [.ref (g + (5 + 2 * i)), .int b, .int x]) (QvW D lo n (gw cy w0 g (m_shut M i b x))) 0 0 (fun q : Nat => lo ≤ q) := by
  refine Met.ofW (cc := cX1_shut) (maxL := 3) (ret := none) (by decide) rfl ?_
  intro p e s m args below meth c s₁ B hml hv
  obtain ⟨rfl, hP, hK, hS⟩ := x_entry hv
  have hx := B.exec
  have hb := B.bytes
  have hr := B.returns
  have hts := atoms_spec (ws := wsX1_shut) B.pre
  have hown : s.vm.findClass RX1 = some m.cls := findClass_of_methodNamed B.named
  have hlocks := B.notSynchronized
  have iX1 : ∀ w ∈ u_ws RX1 TX1 4, w ∈ wsX1_shut := by decide +kernel
  have hl := lv_entry ([.ref (g + (5 + 2 * i)), .int b, .int x]) (n := 3) (Nat.le_of_ble_eq_true rfl)
  rw [lg_entry_eq]
  generalize (lg_sl ([.ref (g + (5 + 2 * i)), .int b, .int x]) ++ List.replicate (3 - (lg_sl ([.ref (g + (5 + 2 * i)), .int b, .int x])).length) Slot.unset).toArray = ls at hl ⊢
  have hl : lv_has ls 3 [(0, .ref (g + (5 + 2 * i))), (1, .int b), (2, .int x)] := hl
  refine lv_iload_n hx hb dX1_shut_0 rfl (lv_at hl 1 rfl) ?_
  refine lv_if_eq (tgt := 12) hx hb dX1_shut_1 (by decide) (fun c_1 => ?_) (fun c_1 => ?_)
  · refine lv_aload_n hx hb dX1_shut_12 rfl (lv_at hl 0 rfl) ?_
    refine lv_iload_n hx hb dX1_shut_13 rfl (lv_at hl 2 rfl) ?_
    refine x_put (ty := .boolean) (ref := RX1) (C := RX1) (T := TX1) (N := 4) (ci := 1) (v := .int x) hx hb hts iX1 tyX1 tyX1_ok nmX1 hown hK.1 hP hS (by omega) (by omega) (gw_cell (by omega)) rfl 3 (by decide) (hts (.fieldLink RX1 29 "PoreField$Cell" "isShutSouth" "Z") (by decide +kernel)) (fun _ h9 => h9) rfl (by decide +kernel) (nar_z hx01) (fit_z hx01) (Nat.le_of_ble_eq_true rfl) dX1_shut_14 (fun H locs hP hS => ?_)
    have hP := gp (k := 5 + 2 * i) (j := 3) (v := x) hP (by omega) (by rw [gEr_cell (by omega)]; rfl)
    exact W.vret hx hb hr (fun tE ht hW => ⟨⟨(), rfl, trivial, x_at ht ((by rw [show m_shut M i b x = _ from (by simp only [m_shut, if_pos c_1] : _ = u2 M (5 + 2 * i) 3 x)]; exact hP))⟩, hS.F ht⟩) hS.2.2 dX1_shut_17
  · refine lv_aload_n hx hb dX1_shut_4 rfl (lv_at hl 0 rfl) ?_
    refine lv_iload_n hx hb dX1_shut_5 rfl (lv_at hl 2 rfl) ?_
    refine x_put (ty := .boolean) (ref := RX1) (C := RX1) (T := TX1) (N := 4) (ci := 1) (v := .int x) hx hb hts iX1 tyX1 tyX1_ok nmX1 hown hK.1 hP hS (by omega) (by omega) (gw_cell (by omega)) rfl 2 (by decide) (hts (.fieldLink RX1 25 "PoreField$Cell" "isShutEast" "Z") (by decide +kernel)) (fun _ h9 => h9) rfl (by decide +kernel) (nar_z hx01) (fit_z hx01) (Nat.le_of_ble_eq_true rfl) dX1_shut_6 (fun H locs hP hS => ?_)
    have hP := gp (k := 5 + 2 * i) (j := 2) (v := x) hP (by omega) (by rw [gEr_cell (by omega)]; rfl)
    refine lv_goto (tgt := 17) hx hb dX1_shut_9 (by decide) ?_
    exact W.vret hx hb hr (fun tE ht hW => ⟨⟨(), rfl, trivial, x_at ht ((by rw [show m_shut M i b x = _ from (by simp only [m_shut, if_neg c_1] : _ = u2 M (5 + 2 * i) 2 x)]; exact hP))⟩, hS.F ht⟩) hS.2.2 dX1_shut_17

set_option maxRecDepth 100000 in
set_option maxHeartbeats 4000000 in
/-- Cell.moveOut: into the int array g + k2 -/
theorem c_X1_moveOut (l : Launch) (D : va_G) (cy : Nat → ClassId) (lo n : Nat) (w0 : Nat → va_E) (g : Nat) (M : Mem) (hg1 : lo ≤ g) (hg2 : g + 49 ≤ lo + n) (i : Nat) (hi : i < 16) (t : Int32) (k2 : Nat) (hk2 : gRow k2) : Met l yX1_moveOut wsX1_moveOut ({ frames := 1, cells := 0, slots := 0, locals := 24 }) (PcW D cy lo n (gw cy w0 g M) [.ref (g + (5 + 2 * i)), .int t, .ref (g + k2)]) (QvW D lo n (gw cy w0 g (m_moveOut M i t k2))) 0 0 (fun q : Nat => lo ≤ q) := by
  refine Met.ofW (cc := cX1_moveOut) (maxL := 6) (ret := none) (by decide) rfl ?_
  intro p e s m args below meth c s₁ B hml hv
  obtain ⟨rfl, hP, hK, hS⟩ := x_entry hv
  have hx := B.exec
  have hb := B.bytes
  have hr := B.returns
  have hts := atoms_spec (ws := wsX1_moveOut) B.pre
  have hown : s.vm.findClass RX1 = some m.cls := findClass_of_methodNamed B.named
  have hlocks := B.notSynchronized
  have iX1 : ∀ w ∈ u_ws RX1 TX1 4, w ∈ wsX1_moveOut := by decide +kernel
  have hl := lv_entry ([.ref (g + (5 + 2 * i)), .int t, .ref (g + k2)]) (n := 6) (Nat.le_of_ble_eq_true rfl)
  rw [lg_entry_eq]
  generalize (lg_sl ([.ref (g + (5 + 2 * i)), .int t, .ref (g + k2)]) ++ List.replicate (6 - (lg_sl ([.ref (g + (5 + 2 * i)), .int t, .ref (g + k2)])).length) Slot.unset).toArray = ls at hl ⊢
  have hl : lv_has ls 6 [(0, .ref (g + (5 + 2 * i))), (1, .int t), (2, .ref (g + k2))] := hl
  have hk49 := hk2.1
  refine lv_aload_n hx hb dX1_moveOut_0 rfl (lv_at hl 0 rfl) ?_
  refine x_calli (va_runV (As := []) (rest := []) ⟨hx, hb, hml, hown, hts⟩ (c_X1_all l D cy lo n w0 g M (by omega) (by omega) i (by omega)) (cwV 0 hts gX1_moveOut_X1_all rfl rfl rfl (by decide +kernel) ⟨Nat.le_of_ble_eq_true rfl, Nat.le_of_ble_eq_true rfl⟩) (preV hP hK (x_recv (ci := 1) (q := (RX1, TX1, 4)) hK.1 hP (by omega) (by omega) rfl (gw_cell (by omega)))) rfl rfl hl.1 rfl (lv_room (Nat.le_of_ble_eq_true rfl)) dX1_moveOut_1 ⟨Nat.le_of_ble_eq_true rfl, Nat.le_of_ble_eq_true rfl⟩) hS (fun H locs hP hS => ?_)
  refine lv_istore_n (lv' := [(3, .int (m_all M i)), (0, .ref (g + (5 + 2 * i))), (1, .int t), (2, .ref (g + k2))]) hx hb dX1_moveOut_4 rfl hl (by decide) rfl (fun ls hl => ?_)
  refine lv_iload_n hx hb dX1_moveOut_5 rfl (lv_at hl 0 rfl) ?_
  refine lv_if_gt (tgt := 10) hx hb dX1_moveOut_6 (by decide) (fun c_6 => ?_) (fun c_6 => ?_)
  · refine lv_iconst (v := 0) hx hb dX1_moveOut_10 (by decide) ?_
    refine lv_istore (lv' := [(4, .int (0 : Int32)), (3, .int (m_all M i)), (0, .ref (g + (5 + 2 * i))), (1, .int t), (2, .ref (g + k2))]) hx hb dX1_moveOut_11 hl (by decide) rfl (fun ls hl => ?_)
    have hloop13 : ∀ (f_r f : Nat) (H : Heap) (locs : List Loc) (ls : Array Slot), f + f_r = 3 → lv_has ls 6 [(4, .int (nI f)), (3, .int (m_all M i)), (0, .ref (g + (5 + 2 * i))), (1, .int t), (2, .ref (g + k2))] → va_P D vwCl (rl lo n (gw cy w0 g (fo (m_mvs i t (m_all M i) k2) f M))) H → va_S (fun q : Nat => lo ≤ q) s.heap H locs → W p l e (headSpec wsX1_moveOut ({ frames := 1, cells := 0, slots := 0, locals := 24 })).room s m (([.ref (g + (5 + 2 * i)), .int t, .ref (g + k2)] : List Value).toArray) below meth c H locs 0 0 (MQ below (QvW D lo n (gw cy w0 g (m_moveOut M i t k2))) (([.ref (g + (5 + 2 * i)), .int t, .ref (g + k2)] : List Value).toArray) s 0 0 (fun q : Nat => lo ≤ q)) (F0 m 13 ls []) := by
      intro f_r
      induction f_r with
      | zero =>
        intro f H locs ls hk13 hl hP hS
        obtain rfl : f = 3 := by omega
        refine lv_iload hx hb dX1_moveOut_13 (lv_at hl 0 rfl) ?_
        refine lv_iconst (v := 3) hx hb dX1_moveOut_15 (by decide) ?_
        refine lv_icmp_ge (tgt := 76) hx hb dX1_moveOut_16 (by decide) (fun _ => ?_) (fun c => absurd ((br_le (show (3 : Int32) = nI 3 from rfl) (show (nI 3) = nI 3 from rfl) (by omega) (by omega)).mpr (by omega)) c)
        exact W.vret hx hb hr (fun tE ht hW => ⟨⟨(), rfl, trivial, x_at ht ((by rw [show m_moveOut M i t k2 = _ from (by simp only [m_moveOut, if_pos c_6] : _ = fo (m_mvs i t (m_all M i) k2) 3 M)]; exact hP))⟩, hS.F ht⟩) hS.2.2 dX1_moveOut_76
      | succ f_r ih13 =>
        intro f H locs ls hk13 hl hP hS
        refine lv_iload hx hb dX1_moveOut_13 (lv_at hl 0 rfl) ?_
        refine lv_iconst (v := 3) hx hb dX1_moveOut_15 (by decide) ?_
        refine lv_icmp_ge (tgt := 76) hx hb dX1_moveOut_16 (by decide) (fun c => absurd ((br_le (show (3 : Int32) = nI 3 from rfl) (show (nI f) = nI f from rfl) (by omega) (by omega)).mp c) (by omega)) (fun _ => ?_)
        refine lv_aload_n hx hb dX1_moveOut_19 rfl (lv_at hl 2 rfl) ?_
        refine x_get (ref := RX1) (C := RX1) (T := TX1) (N := 4) (ci := 1) (v := .ref (g + (6 + 2 * i))) hx hb hts iX1 hown hK.1 hP (by omega) (by omega) (gw_cell (by omega)) rfl 1 (by decide) (hts (.fieldLink RX1 15 "PoreField$Cell" "fluids" "[I") (by decide +kernel)) (fun _ h9 => h9) rfl dX1_moveOut_20 ?_
        refine lv_iload hx hb dX1_moveOut_23 (lv_at hl 0 rfl) ?_
        refine x_iald hx hb hK.1 hP (by omega) (by omega) 0 (gw_row (gRow_fl (by omega))) rfl (cl_of_nI (i := f) rfl (by omega)) (vp_in_of_nI (i := f) rfl (by omega) (by omega)) dX1_moveOut_25 ?_
        refine lv_i2l hx hb dX1_moveOut_26 rfl ?_
        refine lv_aload_n hx hb dX1_moveOut_27 rfl (lv_at hl 2 rfl) ?_
        refine lv_iload hx hb dX1_moveOut_28 (lv_at hl 0 rfl) ?_
        refine x_calll (va_runV (As := [.int (nI f)]) (rest := [.long (((fo (m_mvs i t (m_all M i) k2) f M) (6 + 2 * i) f).toInt64)]) ⟨hx, hb, hml, hown, hts⟩ (c_X1_flow l D cy lo n w0 g (fo (m_mvs i t (m_all M i) k2) f M) (by omega) (by omega) i (by omega) f (by omega)) (cwV 1 hts gX1_moveOut_X1_flow rfl rfl rfl (by decide +kernel) ⟨Nat.le_of_ble_eq_true rfl, Nat.le_of_ble_eq_true rfl⟩) (preV hP hK (x_recv (ci := 1) (q := (RX1, TX1, 4)) hK.1 hP (by omega) (by omega) rfl (gw_cell (by omega)))) rfl rfl hl.1 rfl (lv_room (Nat.le_of_ble_eq_true rfl)) dX1_moveOut_30 ⟨Nat.le_of_ble_eq_true rfl, Nat.le_of_ble_eq_true rfl⟩) hS (fun H locs hP hS => ?_)
        refine lv_iload_n hx hb dX1_moveOut_33 rfl (lv_at hl 3 rfl) ?_
        refine lv_iload_n hx hb dX1_moveOut_34 rfl (lv_at hl 1 rfl) ?_
        refine va_mmin (own := RX1) hx hb (hml.trans hl.1.symm) hown (hts (.methodLink RX1 42 Lib.Math.min.name) (by decide +kernel)) (hts (.static Lib.Math.min.name) (by decide +kernel)) (hts (.initialized "java/lang/Math") (by decide +kernel)) (hts (.code Lib.Math.min.name Lib.Math.min.code 2 (some .int)) (by decide +kernel)) (Nat.le_of_ble_eq_true rfl) (Nat.le_of_ble_eq_true rfl) (Nat.zero_le _) (Nat.zero_le _) dX1_moveOut_35 ?_
        refine lv_i2l hx hb dX1_moveOut_38 rfl ?_
        refine lv_lmul hx hb dX1_moveOut_39 ?_
        refine lv_iload_n hx hb dX1_moveOut_40 rfl (lv_at hl 1 rfl) ?_
        refine lv_i2l hx hb dX1_moveOut_41 rfl ?_
        refine lv_ldiv hx hb dX1_moveOut_42 (toInt64_ne0 (pos_ne0 c_6)) ?_
        refine va_mmin_long (own := RX1) hx hb (hml.trans hl.1.symm) hown (hts (.methodLink RX1 48 Lib.MathLoose.min_long.x) (by decide +kernel)) (hts (.static Lib.MathLoose.min_long.x) (by decide +kernel)) (hts (.initialized "java/lang/Math") (by decide +kernel)) (hts (.code Lib.MathLoose.min_long.x Lib.MathLoose.min_long.code 4 (some .long)) (by decide +kernel)) (Nat.le_of_ble_eq_true rfl) (Nat.le_of_ble_eq_true rfl) (Nat.zero_le _) (Nat.zero_le _) dX1_moveOut_43 ?_
        refine lv_l2i hx hb dX1_moveOut_46 rfl ?_
        refine lv_istore (lv' := [(5, .int ((jminl (((fo (m_mvs i t (m_all M i) k2) f M) (6 + 2 * i) f).toInt64) (((m_flow (fo (m_mvs i t (m_all M i) k2) f M) i f) * ((jmin t (m_all M i)).toInt64)) / ((m_all M i).toInt64))).toInt32)), (4, .int (nI f)), (3, .int (m_all M i)), (0, .ref (g + (5 + 2 * i))), (1, .int t), (2, .ref (g + k2))]) hx hb dX1_moveOut_47 hl (by decide) rfl (fun ls hl => ?_)
        refine lv_aload_n hx hb dX1_moveOut_49 rfl (lv_at hl 3 rfl) ?_
        refine x_get (ref := RX1) (C := RX1) (T := TX1) (N := 4) (ci := 1) (v := .ref (g + (6 + 2 * i))) hx hb hts iX1 hown hK.1 hP (by omega) (by omega) (gw_cell (by omega)) rfl 1 (by decide) (hts (.fieldLink RX1 15 "PoreField$Cell" "fluids" "[I") (by decide +kernel)) (fun _ h9 => h9) rfl dX1_moveOut_50 ?_
        refine lv_iload hx hb dX1_moveOut_53 (lv_at hl 1 rfl) ?_
        refine lv_dup2_11 hx hb dX1_moveOut_55 rfl rfl ?_
        refine x_iald hx hb hK.1 hP (by omega) (by omega) 0 (gw_row (gRow_fl (by omega))) rfl (cl_of_nI (i := f) rfl (by omega)) (vp_in_of_nI (i := f) rfl (by omega) (by omega)) dX1_moveOut_56 ?_
        refine lv_iload hx hb dX1_moveOut_57 (lv_at hl 0 rfl) ?_
        refine lv_isub hx hb dX1_moveOut_59 ?_
        refine x_iast (v := (((fo (m_mvs i t (m_all M i) k2) f M) (6 + 2 * i) f) - ((jminl (((fo (m_mvs i t (m_all M i) k2) f M) (6 + 2 * i) f).toInt64) (((m_flow (fo (m_mvs i t (m_all M i) k2) f M) i f) * ((jmin t (m_all M i)).toInt64)) / ((m_all M i).toInt64))).toInt32))) hx hb hK.1 hP hS (by omega) (by omega) 0 (gw_row (gRow_fl (by omega))) rfl (cl_of_nI (i := f) rfl (by omega)) (vp_in_of_nI (i := f) rfl (by omega) (by omega)) dX1_moveOut_60 (fun H locs hP hS => ?_)
        have hP := gpr (k := 6 + 2 * i) (j := f) (v := (((fo (m_mvs i t (m_all M i) k2) f M) (6 + 2 * i) f) - ((jminl (((fo (m_mvs i t (m_all M i) k2) f M) (6 + 2 * i) f).toInt64) (((m_flow (fo (m_mvs i t (m_all M i) k2) f M) i f) * ((jmin t (m_all M i)).toInt64)) / ((m_all M i).toInt64))).toInt32))) hP (gRow_fl (by omega))
        refine lv_aload_n hx hb dX1_moveOut_61 rfl (lv_at hl 5 rfl) ?_
        refine lv_iload hx hb dX1_moveOut_62 (lv_at hl 1 rfl) ?_
        refine lv_dup2_11 hx hb dX1_moveOut_64 rfl rfl ?_
        refine x_iald hx hb hK.1 hP (by omega) (by omega) 0 (gw_row (hk2)) rfl (cl_of_nI (i := f) rfl (by omega)) (vp_in_of_nI (i := f) rfl (by omega) (by omega)) dX1_moveOut_65 ?_
        refine lv_iload hx hb dX1_moveOut_66 (lv_at hl 0 rfl) ?_
        refine lv_iadd hx hb dX1_moveOut_68 ?_
        refine x_iast (v := (((u2 (fo (m_mvs i t (m_all M i) k2) f M) (6 + 2 * i) f (((fo (m_mvs i t (m_all M i) k2) f M) (6 + 2 * i) f) - ((jminl (((fo (m_mvs i t (m_all M i) k2) f M) (6 + 2 * i) f).toInt64) (((m_flow (fo (m_mvs i t (m_all M i) k2) f M) i f) * ((jmin t (m_all M i)).toInt64)) / ((m_all M i).toInt64))).toInt32))) (k2) f) + ((jminl (((fo (m_mvs i t (m_all M i) k2) f M) (6 + 2 * i) f).toInt64) (((m_flow (fo (m_mvs i t (m_all M i) k2) f M) i f) * ((jmin t (m_all M i)).toInt64)) / ((m_all M i).toInt64))).toInt32))) hx hb hK.1 hP hS (by omega) (by omega) 0 (gw_row (hk2)) rfl (cl_of_nI (i := f) rfl (by omega)) (vp_in_of_nI (i := f) rfl (by omega) (by omega)) dX1_moveOut_69 (fun H locs hP hS => ?_)
        have hP := gpr (k := k2) (j := f) (v := (((u2 (fo (m_mvs i t (m_all M i) k2) f M) (6 + 2 * i) f (((fo (m_mvs i t (m_all M i) k2) f M) (6 + 2 * i) f) - ((jminl (((fo (m_mvs i t (m_all M i) k2) f M) (6 + 2 * i) f).toInt64) (((m_flow (fo (m_mvs i t (m_all M i) k2) f M) i f) * ((jmin t (m_all M i)).toInt64)) / ((m_all M i).toInt64))).toInt32))) (k2) f) + ((jminl (((fo (m_mvs i t (m_all M i) k2) f M) (6 + 2 * i) f).toInt64) (((m_flow (fo (m_mvs i t (m_all M i) k2) f M) i f) * ((jmin t (m_all M i)).toInt64)) / ((m_all M i).toInt64))).toInt32))) hP (hk2)
        refine lv_iinc (v := (nI (f + 1))) (lv' := [(4, .int (nI (f + 1))), (5, .int ((jminl (((fo (m_mvs i t (m_all M i) k2) f M) (6 + 2 * i) f).toInt64) (((m_flow (fo (m_mvs i t (m_all M i) k2) f M) i f) * ((jmin t (m_all M i)).toInt64)) / ((m_all M i).toInt64))).toInt32)), (3, .int (m_all M i)), (0, .ref (g + (5 + 2 * i))), (1, .int t), (2, .ref (g + k2))]) hx hb dX1_moveOut_70 hl (k := 1) rfl (nI_1 _) (by decide) rfl (fun ls hl => ?_)
        refine lv_goto (tgt := 13) hx hb dX1_moveOut_73 (by decide) ?_
        exact ih13 (f + 1) _ _ _ (by omega) (lv_sub hl [0, 2, 3, 4, 5] rfl) (hP) hS
    exact hloop13 3 0 _ _ _ (by omega) (lv_sub hl [0, 1, 2, 3, 4] rfl) (hP) hS
  · exact W.vret hx hb hr (fun tE ht hW => ⟨⟨(), rfl, trivial, x_at ht ((by rw [show m_moveOut M i t k2 = _ from (by simp only [m_moveOut, if_neg c_6] : _ = M)]; exact hP))⟩, hS.F ht⟩) hS.2.2 dX1_moveOut_9
end
section
/-! what a Ground's methods do to its ints -/
section
/-- as many times f as there are: f 0, f 1, .. -/
theorem fo_ind {α : Type} {f : Nat → α → α} {P : α → Prop} (h : ∀ i x, P x → P (f i x)) : ∀ (n : Nat) (x : α), P x → P (fo f n x)
  | 0, _, hx => hx
  | n + 1, x, hx => h n _ (fo_ind h n x hx)
/-- what is told stays: rooms, faults, wells, capacities, permit, tank's size, how many wells -/
def Cg (M M' : Mem) : Prop := (∀ k, (k % 2 = 1 ∨ k = 2) → M' k = M k) ∧ M' 0 2 = M 0 2 ∧ M' 0 4 = M 0 4 ∧ M' 0 5 = M 0 5
theorem Cg.rf {M : Mem} : Cg M M := ⟨fun _ _ => rfl, rfl, rfl, rfl⟩
theorem Cg.tr {M M' M'' : Mem} (h : Cg M M') (h' : Cg M' M'') : Cg M M'' := ⟨fun k hk => (h'.1 k hk).trans (h.1 k hk), h'.2.1.trans h.2.1, h'.2.2.1.trans h.2.2.1, h'.2.2.2.trans h.2.2.2⟩
theorem Cg.u2 {M M' : Mem} {k j : Nat} {v : Int32} (h : Cg M M') (hk : k % 2 = 0 ∧ k ≠ 2 ∧ (k = 0 → j ≠ 2 ∧ j ≠ 4 ∧ j ≠ 5)) : Cg M (u2 M' k j v) := by
  refine h.tr ⟨fun a ha => u2_k (by omega), u2_ne (by omega), u2_ne (by omega), u2_ne (by omega)⟩
theorem Cg.fo {M M' : Mem} (h : Cg M M') {f : Nat → Mem → Mem} (hf : ∀ i x, Cg x (f i x)) (n : Nat) : Cg M (fo f n M') := fo_ind (P := fun x => Cg M x) (fun i x hx => hx.tr (hf i x)) n M' h
/-- the well w's cell -/
def cix (M : Mem) (w : Nat) : Nat := (M (37 + 2 * w) 1).toNatClampNeg
/-- nd wells, each in a cell that there is; no cell without room; faults are told by 0 and 1 -/
def GI (nd : Nat) (M : Mem) : Prop := nd ≤ 6 ∧ M 0 2 = nI nd ∧ (∀ w, w < 6 → cix M w < 16 ∧ M (37 + 2 * w) 1 = nI (cix M w)) ∧ ∀ i, i < 16 → ¬ M (5 + 2 * i) 0 = 0 ∧ (M (5 + 2 * i) 2 = 0 ∨ M (5 + 2 * i) 2 = 1) ∧ (M (5 + 2 * i) 3 = 0 ∨ M (5 + 2 * i) 3 = 1)
theorem GI.cg {nd : Nat} {M M' : Mem} (h : GI nd M) (hc : Cg M M') : GI nd M' := by
  refine ⟨h.1, hc.2.1.trans h.2.1, fun w hw => ?_, fun i hi => ?_⟩
  · have e := hc.1 (37 + 2 * w) (by omega)
    unfold cix
    rw [e]
    exact h.2.2.1 w hw
  · rw [hc.1 (5 + 2 * i) (by omega)]
    exact h.2.2.2 i hi
theorem GI.dr {nd : Nat} {M : Mem} (h : GI nd M) : M 0 2 = nI nd := h.2.1
theorem GI.cx {nd : Nat} {M : Mem} (h : GI nd M) {w : Nat} (hw : w < 6) : cix M w < 16 := (h.2.2.1 w hw).1
theorem GI.ce {nd : Nat} {M : Mem} (h : GI nd M) {w : Nat} (hw : w < 6) : M (37 + 2 * w) 1 = nI (cix M w) := (h.2.2.1 w hw).2
theorem GI.rm {nd : Nat} {M : Mem} (h : GI nd M) {i : Nat} (hi : i < 16) : ¬ M (5 + 2 * i) 0 = 0 := (h.2.2.2 i hi).1
theorem GI.sh {nd : Nat} {M : Mem} (h : GI nd M) {i : Nat} (hi : i < 16) : (M (5 + 2 * i) 2 = 0 ∨ M (5 + 2 * i) 2 = 1) ∧ (M (5 + 2 * i) 3 = 0 ∨ M (5 + 2 * i) 3 = 1) := (h.2.2.2 i hi).2
/-- a row that moves: a cell's fluids or what a well gave -/
theorem cg_mvs {i k2 : Nat} {t al : Int32} (h2 : k2 % 2 = 0 ∧ 3 < k2) (f : Nat) (M : Mem) : Cg M (m_mvs i t al k2 f M) := (Cg.rf.u2 (by omega)).u2 (by omega)
theorem cg_moveOut {M : Mem} {i k2 : Nat} {t : Int32} (h2 : k2 % 2 = 0 ∧ 3 < k2) : Cg M (m_moveOut M i t k2) := by
  unfold m_moveOut
  split
  · exact Cg.rf.fo (fun f x => cg_mvs h2 f x) 3
  · exact Cg.rf
def m_forget (w : Nat) (M : Mem) : Mem := fo (fun f M => u2 M (38 + 2 * w) f 0) 3 M
theorem cg_forget {w : Nat} {M : Mem} : Cg M (m_forget w M) := Cg.rf.fo (fun f x => Cg.rf.u2 (by omega)) 3
def m_hasP (M : Mem) (w : Nat) : Int32 := if M (37 + 2 * w) 0 = 0 then if M (38 + 2 * w) 0 + M (38 + 2 * w) 1 + M (38 + 2 * w) 2 ≤ 0 then 0 else 1 else 0
def m_may (M : Mem) (f : Nat) : Int32 := if nI f = 0 then jmin (M 3 f - M 4 f) (M 0 5 - M 0 6) else if nI f = 2 then jmin (M 3 f - M 4 f) (M 0 8 - M 4 2) else M 3 f - M 4 f
def m_putIn (M : Mem) (w f : Nat) (x : Int32) : Mem := u2 (u2 M (6 + 2 * cix M w) f (M (6 + 2 * cix M w) f + x)) (38 + 2 * w) f x
theorem cg_putIn {M : Mem} {w f : Nat} {x : Int32} : Cg M (m_putIn M w f x) := (Cg.rf.u2 (by omega)).u2 (by omega)
def m_times0 (M : Mem) (w : Nat) : Int32 := M (37 + 2 * w) 2 * jmax 0 (m_pressure M (cix M w) - 50) / 100
def m_timesS (M : Mem) (c : Nat) (f : Nat) (t : Int32) : Int32 := jmin t (m_mostTimes M c f (m_may M f))
def m_times (M : Mem) (w : Nat) : Int32 := fo (m_timesS M (cix M w)) 3 (m_times0 M w)
def m_upS (w f : Nat) (M : Mem) : Mem := u2 M 4 f (M 4 f + M (38 + 2 * w) f)
def m_produce1 (M : Mem) (w : Nat) : Mem := fo (m_upS w) 3 (m_moveOut M (cix M w) (m_times M w) (38 + 2 * w))
def m_produce (w : Nat) (M : Mem) : Mem := u2 (m_produce1 M w) 0 6 (m_produce1 M w 0 6 + m_produce1 M w (38 + 2 * w) 0)
theorem cg_produce1 {M : Mem} {w : Nat} : Cg M (m_produce1 M w) := (cg_moveOut (by omega)).fo (fun f x => Cg.rf.u2 (by omega)) 3
theorem cg_produce {M : Mem} {w : Nat} : Cg M (m_produce w M) := cg_produce1.u2 (by omega)
def m_start0 (M : Mem) : Mem := fo (fun f M => u2 M 4 f 0) 3 M
def m_start1 (M : Mem) : Mem := u2 (u2 (u2 (m_start0 M) 0 10 0) 0 11 0) 0 8 (u2 (u2 (m_start0 M) 0 10 0) 0 11 0 0 4)
def m_startS (w : Nat) (M : Mem) : Mem := if m_forget w M (37 + 2 * w) 0 = 2 then u2 (m_forget w M) 0 8 (m_forget w M 0 8 + 2 * m_forget w M (37 + 2 * w) 2) else m_forget w M
def m_start (nd : Nat) (M : Mem) : Mem := fo m_startS nd (m_start1 M)
theorem cg_start0 {M : Mem} {k : Nat} : Cg M (fo (fun f M => u2 M 4 f 0) k M) := Cg.rf.fo (fun f x => Cg.rf.u2 (by omega)) k
theorem cg_start1 {M : Mem} : Cg M (m_start1 M) := ((cg_start0.u2 (by omega)).u2 (by omega)).u2 (by omega)
theorem cg_startS {w : Nat} {M : Mem} : Cg M (m_startS w M) := by
  unfold m_startS
  split
  · exact cg_forget.u2 (by omega)
  · exact cg_forget
theorem cg_start {nd : Nat} {M : Mem} : Cg M (m_start nd M) := cg_start1.fo (fun w x => cg_startS) nd
def m_gasS (w : Nat) (q : Int32 × Mem) : Int32 × Mem := if q.2 (37 + 2 * w) 0 = 2 then (q.1 - jmin q.1 (2 * q.2 (37 + 2 * w) 2), u2 (m_putIn q.2 w 2 (jmin q.1 (2 * q.2 (37 + 2 * w) 2))) 0 10 (m_putIn q.2 w 2 (jmin q.1 (2 * q.2 (37 + 2 * w) 2)) 0 10 + jmin q.1 (2 * q.2 (37 + 2 * w) 2))) else q
def m_gas (nd : Nat) (M : Mem) : Mem := u2 (fo m_gasS nd (M 4 2, M)).2 0 9 (fo m_gasS nd (M 4 2, M)).1
theorem cg_gasS {w : Nat} {q : Int32 × Mem} : Cg q.2 (m_gasS w q).2 := by
  unfold m_gasS
  split
  · exact cg_putIn.u2 (by omega)
  · exact Cg.rf
theorem cg_gas1 {k : Nat} {M : Mem} {x : Int32} : Cg M (fo m_gasS k (x, M)).2 := fo_ind (P := fun q => Cg M q.2) (fun w q h => h.tr cg_gasS) k (x, M) Cg.rf
theorem cg_gas {nd : Nat} {M : Mem} : Cg M (m_gas nd M) := cg_gas1.u2 (by omega)
def m_waterS (w : Nat) (M : Mem) : Mem := if M (37 + 2 * w) 0 = 1 then if 200 ≤ m_pressure M (cix M w) then M else u2 (m_putIn M w 1 (2 * M (37 + 2 * w) 2)) 0 11 (m_putIn M w 1 (2 * M (37 + 2 * w) 2) 0 11 + 2 * M (37 + 2 * w) 2) else M
def m_water (nd : Nat) (M : Mem) : Mem := fo m_waterS nd M
theorem cg_waterS {w : Nat} {M : Mem} : Cg M (m_waterS w M) := by
  unfold m_waterS
  split
  · split
    · exact Cg.rf
    · exact cg_putIn.u2 (by omega)
  · exact Cg.rf
theorem cg_water1 {k : Nat} {M : Mem} : Cg M (fo m_waterS k M) := Cg.rf.fo (fun w x => cg_waterS) k
/-- PoreField.neighbour -/
def m_nb (c : Nat) (b : Int32) : Int32 := if b = 0 then if nI c + 4 < 16 then nI c + 4 else -1 else if nI c - nI c / 4 * 4 = 3 then -1 else nI c + 1
def nbd (c : Nat) (b : Int32) : Nat := if b = 0 then c + 4 else c + 1
theorem nb_ok {c : Nat} {b : Int32} (hc : c < 16) (h : ¬ m_nb c b = -1) : nbd c b < 16 ∧ m_nb c b = nI (nbd c b) := by
  have k : ∀ c, c < 16 → (¬ (if nI c + 4 < 16 then nI c + 4 else (-1 : Int32)) = -1 → c + 4 < 16 ∧ (if nI c + 4 < 16 then nI c + 4 else (-1 : Int32)) = nI (c + 4)) ∧ (¬ (if nI c - nI c / 4 * 4 = 3 then (-1 : Int32) else nI c + 1) = -1 → c + 1 < 16 ∧ (if nI c - nI c / 4 * 4 = 3 then (-1 : Int32) else nI c + 1) = nI (c + 1)) := by decide +kernel
  unfold m_nb at h ⊢
  unfold nbd
  by_cases hb : b = 0
  · rw [if_pos hb] at h ⊢
    rw [if_pos hb]
    exact (k c hc).1 h
  · rw [if_neg hb] at h ⊢
    rw [if_neg hb]
    exact (k c hc).2 h
def m_even (b : Int32) (c : Nat) (M : Mem) : Mem :=
  if m_nb c b = -1 then M else if m_isShut M c b = 0 then
    if m_pressure M c - m_pressure M (nbd c b) ≤ 0 then m_moveOut M (nbd c b) (-(m_pressure M c - m_pressure M (nbd c b)) / 20) (6 + 2 * c) else m_moveOut M c ((m_pressure M c - m_pressure M (nbd c b)) / 20) (6 + 2 * nbd c b)
  else M
theorem cg_even {b : Int32} {c : Nat} {M : Mem} : Cg M (m_even b c M) := by
  unfold m_even
  split
  · exact Cg.rf
  · split
    · split
      · exact cg_moveOut (by omega)
      · exact cg_moveOut (by omega)
    · exact Cg.rf
def m_rankS (r w : Nat) (M : Mem) : Mem := if M (37 + 2 * w) 0 = 0 then if M (37 + 2 * w) 3 = nI (r + 1) then m_produce w M else M else M
def m_rank (nd r : Nat) (M : Mem) : Mem := fo (m_rankS r) nd M
def m_evens (c : Nat) (M : Mem) : Mem := m_even 0 c (m_even 1 c M)
def m_month (nd : Nat) (M : Mem) : Mem := fo m_evens 16 (m_water nd (m_gas nd (fo (m_rank nd) 9 (m_start nd M))))
theorem cg_rankS {r w : Nat} {M : Mem} : Cg M (m_rankS r w M) := by
  unfold m_rankS
  split
  · split
    · exact cg_produce
    · exact Cg.rf
  · exact Cg.rf
theorem cg_rank1 {r k : Nat} {M : Mem} : Cg M (fo (m_rankS r) k M) := Cg.rf.fo (fun w x => cg_rankS) k
theorem cg_ranks {nd k : Nat} {M : Mem} : Cg M (fo (m_rank nd) k M) := Cg.rf.fo (fun r x => cg_rank1) k
theorem cg_evens {k : Nat} {M : Mem} : Cg M (fo m_evens k M) := Cg.rf.fo (fun c x => cg_even.tr cg_even) k
theorem cg_month {nd : Nat} {M : Mem} : Cg M (m_month nd M) := (((cg_start.tr cg_ranks).tr cg_gas).tr cg_water1).tr cg_evens
def m_monthsS (nd : Nat) (_ : Nat) (q : Int32 × Mem) : Int32 × Mem := (q.1 + m_month nd q.2 4 0, m_month nd q.2)
def m_months (nd k : Nat) (M : Mem) : Int32 × Mem := fo (m_monthsS nd) k (0, M)
theorem months_succ {nd k : Nat} {M : Mem} : m_months nd (k + 1) M = ((m_months nd k M).1 + m_month nd (m_months nd k M).2 4 0, m_month nd (m_months nd k M).2) := by simp only [m_months, fo, m_monthsS]
theorem cg_monthsS {nd i : Nat} {q : Int32 × Mem} {M : Mem} (h : Cg M q.2) : Cg M (m_monthsS nd i q).2 := by
  simp only [m_monthsS]
  exact Cg.tr (M' := q.2) h (cg_month (nd := nd) (M := q.2))
theorem cg_months {nd k : Nat} {M : Mem} : Cg M (m_months nd k M).2 := by
  unfold m_months
  exact fo_ind (f := m_monthsS nd) (P := fun q => Cg M q.2) (fun i q h => cg_monthsS h) k (0, M) Cg.rf
def m_inAll (M : Mem) (f k : Nat) : Int32 := fo (fun c x => x + M (6 + 2 * c) f) k 0
def m_faultsS (M : Mem) (c : Nat) (x : Int32) : Int32 := x + (if m_isShut M c 1 = 0 then 0 else 1) + (if m_isShut M c 0 = 0 then 0 else 1)
def m_faults (M : Mem) (k : Nat) : Int32 := fo (m_faultsS M) k 0
/-- take -/
def m_takeC (i : Nat) (N M : Mem) : Mem := u2 (u2 (sr (u2 M (5 + 2 * i) 0 (N (5 + 2 * i) 0)) (6 + 2 * i) (va_cpy (N (6 + 2 * i)) (u2 M (5 + 2 * i) 0 (N (5 + 2 * i) 0) (6 + 2 * i)) 0 0 3)) (5 + 2 * i) 2 (N (5 + 2 * i) 2)) (5 + 2 * i) 3 (N (5 + 2 * i) 3)
def m_takeW (i : Nat) (N M : Mem) : Mem := u2 (u2 (u2 (u2 M (37 + 2 * i) 0 (N (37 + 2 * i) 0)) (37 + 2 * i) 1 (N (37 + 2 * i) 1)) (37 + 2 * i) 2 (N (37 + 2 * i) 2)) (37 + 2 * i) 3 (N (37 + 2 * i) 3)
def m_take1 (N M : Mem) : Mem := fo (fun i M => m_takeW i N M) 6 (fo (fun i M => m_takeC i N M) 16 M)
def m_take2 (N M : Mem) : Mem := u2 (m_take1 N M) 0 2 (N 0 2)
def m_take (N M : Mem) : Mem := u2 (u2 (u2 (sr (m_take2 N M) 3 (va_cpy (N 3) (m_take2 N M 3) 0 0 3)) 0 4 (N 0 4)) 0 5 (N 0 5)) 0 6 (N 0 6)
end
end
section
set_option maxRecDepth 100000 in
set_option maxHeartbeats 4000000 in
/-- Cell.take -/
theorem c_X1_take (l : Launch) (D : va_G) (cy : Nat → ClassId) (lo n : Nat) (w0 : Nat → va_E) (g : Nat) (M : Mem) (hg1 : lo ≤ g) (hg2 : g + 49 ≤ lo + n) (g2 : Nat) (N : Mem) (hn1 : lo ≤ g2) (hn2 : g2 + 49 ≤ lo + n) (hdis : g2 + 49 ≤ g ∨ g + 49 ≤ g2) (i : Nat) (hi : i < 16) (hsh : (N (5 + 2 * i) 2 = 0 ∨ N (5 + 2 * i) 2 = 1) ∧ (N (5 + 2 * i) 3 = 0 ∨ N (5 + 2 * i) 3 = 1)) : Met l yX1_take wsX1_take ({ frames := 1, cells := 0, slots := 0, locals := 80 }) (PcW D cy lo n (gw cy (gw cy w0 g2 N) g M) [.ref (g + (5 + 2 * i)), .ref (g2 + (5 + 2 * i))]) (QvW D lo n (gw cy (gw cy w0 g2 N) g (m_takeC i N M))) 0 0 (fun q : Nat => lo ≤ q) := by
  refine Met.ofW (cc := cX1_take) (maxL := 2) (ret := none) (by decide) rfl ?_
  intro p e s m args below meth c s₁ B hml hv
  obtain ⟨rfl, hP, hK, hS⟩ := x_entry hv
  have hx := B.exec
  have hb := B.bytes
  have hr := B.returns
  have hts := atoms_spec (ws := wsX1_take) B.pre
  have hown : s.vm.findClass RX1 = some m.cls := findClass_of_methodNamed B.named
  have hlocks := B.notSynchronized
  have iX1 : ∀ w ∈ u_ws RX1 TX1 4, w ∈ wsX1_take := by decide +kernel
  have hl := lv_entry ([.ref (g + (5 + 2 * i)), .ref (g2 + (5 + 2 * i))]) (n := 2) (Nat.le_of_ble_eq_true rfl)
  rw [lg_entry_eq]
  generalize (lg_sl ([.ref (g + (5 + 2 * i)), .ref (g2 + (5 + 2 * i))]) ++ List.replicate (2 - (lg_sl ([.ref (g + (5 + 2 * i)), .ref (g2 + (5 + 2 * i))])).length) Slot.unset).toArray = ls at hl ⊢
  have hl : lv_has ls 2 [(0, .ref (g + (5 + 2 * i))), (1, .ref (g2 + (5 + 2 * i)))] := hl
  refine lv_aload_n hx hb dX1_take_0 rfl (lv_at hl 0 rfl) ?_
  refine lv_aload_n hx hb dX1_take_1 rfl (lv_at hl 1 rfl) ?_
  refine x_get (ref := RX1) (C := RX1) (T := TX1) (N := 4) (ci := 1) (v := .int (N (5 + 2 * i) 0)) hx hb hts iX1 hown hK.1 hP (by omega) (by omega) (((gw_out (by omega)).trans (gw_cell (by omega)))) rfl 0 (by decide) (hts (.fieldLink RX1 9 "PoreField$Cell" "room" "I") (by decide +kernel)) (fun _ h9 => h9) rfl dX1_take_2 ?_
  refine x_put (ty := .int) (ref := RX1) (C := RX1) (T := TX1) (N := 4) (ci := 1) (v := .int (N (5 + 2 * i) 0)) hx hb hts iX1 tyX1 tyX1_ok nmX1 hown hK.1 hP hS (by omega) (by omega) (gw_cell (by omega)) rfl 0 (by decide) (hts (.fieldLink RX1 9 "PoreField$Cell" "room" "I") (by decide +kernel)) (fun _ h9 => h9) rfl (by decide +kernel) rfl rfl (Nat.le_of_ble_eq_true rfl) dX1_take_5 (fun H locs hP hS => ?_)
  have hP := gp (k := 5 + 2 * i) (j := 0) (v := (N (5 + 2 * i) 0)) hP (by omega) (by rw [gEr_cell (by omega)]; rfl)
  refine lv_aload_n hx hb dX1_take_8 rfl (lv_at hl 1 rfl) ?_
  refine x_get (ref := RX1) (C := RX1) (T := TX1) (N := 4) (ci := 1) (v := .ref (g2 + (6 + 2 * i))) hx hb hts iX1 hown hK.1 hP (by omega) (by omega) (((gw_out (by omega)).trans (gw_cell (by omega)))) rfl 1 (by decide) (hts (.fieldLink RX1 15 "PoreField$Cell" "fluids" "[I") (by decide +kernel)) (fun _ h9 => h9) rfl dX1_take_9 ?_
  refine lv_iconst (v := 0) hx hb dX1_take_12 (by decide) ?_
  refine lv_aload_n hx hb dX1_take_13 rfl (lv_at hl 0 rfl) ?_
  refine x_get (ref := RX1) (C := RX1) (T := TX1) (N := 4) (ci := 1) (v := .ref (g + (6 + 2 * i))) hx hb hts iX1 hown hK.1 hP (by omega) (by omega) (gw_cell (by omega)) rfl 1 (by decide) (hts (.fieldLink RX1 15 "PoreField$Cell" "fluids" "[I") (by decide +kernel)) (fun _ h9 => h9) rfl dX1_take_14 ?_
  refine lv_iconst (v := 0) hx hb dX1_take_17 (by decide) ?_
  refine lv_iconst (v := 3) hx hb dX1_take_18 (by decide) ?_
  refine x_copyi (own := RX1) (k' := 3) hx hb (hml.trans hl.1.symm) hown (hts (.methodLink RX1 19 arraycopyName) (by decide +kernel)) (hts (.native arraycopyName) (by decide +kernel)) (hts (.static arraycopyName) (by decide +kernel)) (hts (.initialized "java/lang/System") (by decide +kernel)) hK.1 hP hS 0 (by omega) (by omega) (by omega) (by omega) (((gw_out (by omega)).trans (gw_row (gRow_fl (by omega))))) (gw_row (gRow_fl (by omega))) rfl (by decide) rfl (by omega) (by omega) (Nat.le_of_ble_eq_true rfl) (Nat.le_of_ble_eq_true rfl) dX1_take_19 (fun H locs hP hS => ?_)
  have hP := gpc (k := 6 + 2 * i) hP (gRow_fl (by omega))
  refine lv_aload_n hx hb dX1_take_22 rfl (lv_at hl 0 rfl) ?_
  refine lv_aload_n hx hb dX1_take_23 rfl (lv_at hl 1 rfl) ?_
  refine x_get (ref := RX1) (C := RX1) (T := TX1) (N := 4) (ci := 1) (v := .int (N (5 + 2 * i) 2)) hx hb hts iX1 hown hK.1 hP (by omega) (by omega) (((gw_out (by omega)).trans (gw_cell (by omega)))) rfl 2 (by decide) (hts (.fieldLink RX1 25 "PoreField$Cell" "isShutEast" "Z") (by decide +kernel)) (fun _ h9 => h9) rfl dX1_take_24 ?_
  refine x_put (ty := .boolean) (ref := RX1) (C := RX1) (T := TX1) (N := 4) (ci := 1) (v := .int (N (5 + 2 * i) 2)) hx hb hts iX1 tyX1 tyX1_ok nmX1 hown hK.1 hP hS (by omega) (by omega) (gw_cell (by omega)) rfl 2 (by decide) (hts (.fieldLink RX1 25 "PoreField$Cell" "isShutEast" "Z") (by decide +kernel)) (fun _ h9 => h9) rfl (by decide +kernel) (nar_z hsh.1) (fit_z hsh.1) (Nat.le_of_ble_eq_true rfl) dX1_take_27 (fun H locs hP hS => ?_)
  have hP := gp (k := 5 + 2 * i) (j := 2) (v := (N (5 + 2 * i) 2)) hP (by omega) (by rw [gEr_cell (by omega)]; rfl)
  refine lv_aload_n hx hb dX1_take_30 rfl (lv_at hl 0 rfl) ?_
  refine lv_aload_n hx hb dX1_take_31 rfl (lv_at hl 1 rfl) ?_
  refine x_get (ref := RX1) (C := RX1) (T := TX1) (N := 4) (ci := 1) (v := .int (N (5 + 2 * i) 3)) hx hb hts iX1 hown hK.1 hP (by omega) (by omega) (((gw_out (by omega)).trans (gw_cell (by omega)))) rfl 3 (by decide) (hts (.fieldLink RX1 29 "PoreField$Cell" "isShutSouth" "Z") (by decide +kernel)) (fun _ h9 => h9) rfl dX1_take_32 ?_
  refine x_put (ty := .boolean) (ref := RX1) (C := RX1) (T := TX1) (N := 4) (ci := 1) (v := .int (N (5 + 2 * i) 3)) hx hb hts iX1 tyX1 tyX1_ok nmX1 hown hK.1 hP hS (by omega) (by omega) (gw_cell (by omega)) rfl 3 (by decide) (hts (.fieldLink RX1 29 "PoreField$Cell" "isShutSouth" "Z") (by decide +kernel)) (fun _ h9 => h9) rfl (by decide +kernel) (nar_z hsh.2) (fit_z hsh.2) (Nat.le_of_ble_eq_true rfl) dX1_take_35 (fun H locs hP hS => ?_)
  have hP := gp (k := 5 + 2 * i) (j := 3) (v := (N (5 + 2 * i) 3)) hP (by omega) (by rw [gEr_cell (by omega)]; rfl)
  exact W.vret hx hb hr (fun tE ht hW => ⟨⟨(), rfl, trivial, x_at ht (hP)⟩, hS.F ht⟩) hS.2.2 dX1_take_38

set_option maxRecDepth 100000 in
set_option maxHeartbeats 4000000 in
/-- Well.take -/
theorem c_X4_take (l : Launch) (D : va_G) (cy : Nat → ClassId) (lo n : Nat) (w0 : Nat → va_E) (g : Nat) (M : Mem) (hg1 : lo ≤ g) (hg2 : g + 49 ≤ lo + n) (g2 : Nat) (N : Mem) (hn1 : lo ≤ g2) (hn2 : g2 + 49 ≤ lo + n) (hdis : g2 + 49 ≤ g ∨ g + 49 ≤ g2) (i : Nat) (hi : i < 6) : Met l yX4_take wsX4_take ({ frames := 0, cells := 0, slots := 0, locals := 0 }) (PcW D cy lo n (gw cy (gw cy w0 g2 N) g M) [.ref (g + (37 + 2 * i)), .ref (g2 + (37 + 2 * i))]) (QvW D lo n (gw cy (gw cy w0 g2 N) g (m_takeW i N M))) 0 0 (fun q : Nat => lo ≤ q) := by
  refine Met.ofW (cc := cX4_take) (maxL := 2) (ret := none) (by decide) rfl ?_
  intro p e s m args below meth c s₁ B hml hv
  obtain ⟨rfl, hP, hK, hS⟩ := x_entry hv
  have hx := B.exec
  have hb := B.bytes
  have hr := B.returns
  have hts := atoms_spec (ws := wsX4_take) B.pre
  have hown : s.vm.findClass RX4 = some m.cls := findClass_of_methodNamed B.named
  have hlocks := B.notSynchronized
  have iX4 : ∀ w ∈ u_ws RX4 TX4 5, w ∈ wsX4_take := by decide +kernel
  have hl := lv_entry ([.ref (g + (37 + 2 * i)), .ref (g2 + (37 + 2 * i))]) (n := 2) (Nat.le_of_ble_eq_true rfl)
  rw [lg_entry_eq]
  generalize (lg_sl ([.ref (g + (37 + 2 * i)), .ref (g2 + (37 + 2 * i))]) ++ List.replicate (2 - (lg_sl ([.ref (g + (37 + 2 * i)), .ref (g2 + (37 + 2 * i))])).length) Slot.unset).toArray = ls at hl ⊢
  have hl : lv_has ls 2 [(0, .ref (g + (37 + 2 * i))), (1, .ref (g2 + (37 + 2 * i)))] := hl
  refine lv_aload_n hx hb dX4_take_0 rfl (lv_at hl 0 rfl) ?_
  refine lv_aload_n hx hb dX4_take_1 rfl (lv_at hl 1 rfl) ?_
  refine x_get (ref := RX4) (C := RX4) (T := TX4) (N := 5) (ci := 4) (v := .int (N (37 + 2 * i) 0)) hx hb hts iX4 hown hK.1 hP (by omega) (by omega) (((gw_out (by omega)).trans (gw_well (by omega)))) rfl 0 (by decide) (hts (.fieldLink RX4 19 "PoreField$Well" "kind" "I") (by decide +kernel)) (fun _ h9 => h9) rfl dX4_take_2 ?_
  refine x_put (ty := .int) (ref := RX4) (C := RX4) (T := TX4) (N := 5) (ci := 4) (v := .int (N (37 + 2 * i) 0)) hx hb hts iX4 tyX4 tyX4_ok nmX4 hown hK.1 hP hS (by omega) (by omega) (gw_well (by omega)) rfl 0 (by decide) (hts (.fieldLink RX4 19 "PoreField$Well" "kind" "I") (by decide +kernel)) (fun _ h9 => h9) rfl (by decide +kernel) rfl rfl (Nat.le_of_ble_eq_true rfl) dX4_take_5 (fun H locs hP hS => ?_)
  have hP := gp (k := 37 + 2 * i) (j := 0) (v := (N (37 + 2 * i) 0)) hP (by omega) (by rw [gEr_well (by omega)]; rfl)
  refine lv_aload_n hx hb dX4_take_8 rfl (lv_at hl 0 rfl) ?_
  refine lv_aload_n hx hb dX4_take_9 rfl (lv_at hl 1 rfl) ?_
  refine x_get (ref := RX4) (C := RX4) (T := TX4) (N := 5) (ci := 4) (v := .int (N (37 + 2 * i) 1)) hx hb hts iX4 hown hK.1 hP (by omega) (by omega) (((gw_out (by omega)).trans (gw_well (by omega)))) rfl 1 (by decide) (hts (.fieldLink RX4 22 "PoreField$Well" "cell" "I") (by decide +kernel)) (fun _ h9 => h9) rfl dX4_take_10 ?_
  refine x_put (ty := .int) (ref := RX4) (C := RX4) (T := TX4) (N := 5) (ci := 4) (v := .int (N (37 + 2 * i) 1)) hx hb hts iX4 tyX4 tyX4_ok nmX4 hown hK.1 hP hS (by omega) (by omega) (gw_well (by omega)) rfl 1 (by decide) (hts (.fieldLink RX4 22 "PoreField$Well" "cell" "I") (by decide +kernel)) (fun _ h9 => h9) rfl (by decide +kernel) rfl rfl (Nat.le_of_ble_eq_true rfl) dX4_take_13 (fun H locs hP hS => ?_)
  have hP := gp (k := 37 + 2 * i) (j := 1) (v := (N (37 + 2 * i) 1)) hP (by omega) (by rw [gEr_well (by omega)]; rfl)
  refine lv_aload_n hx hb dX4_take_16 rfl (lv_at hl 0 rfl) ?_
  refine lv_aload_n hx hb dX4_take_17 rfl (lv_at hl 1 rfl) ?_
  refine x_get (ref := RX4) (C := RX4) (T := TX4) (N := 5) (ci := 4) (v := .int (N (37 + 2 * i) 2)) hx hb hts iX4 hown hK.1 hP (by omega) (by omega) (((gw_out (by omega)).trans (gw_well (by omega)))) rfl 2 (by decide) (hts (.fieldLink RX4 25 "PoreField$Well" "choke" "I") (by decide +kernel)) (fun _ h9 => h9) rfl dX4_take_18 ?_
  refine x_put (ty := .int) (ref := RX4) (C := RX4) (T := TX4) (N := 5) (ci := 4) (v := .int (N (37 + 2 * i) 2)) hx hb hts iX4 tyX4 tyX4_ok nmX4 hown hK.1 hP hS (by omega) (by omega) (gw_well (by omega)) rfl 2 (by decide) (hts (.fieldLink RX4 25 "PoreField$Well" "choke" "I") (by decide +kernel)) (fun _ h9 => h9) rfl (by decide +kernel) rfl rfl (Nat.le_of_ble_eq_true rfl) dX4_take_21 (fun H locs hP hS => ?_)
  have hP := gp (k := 37 + 2 * i) (j := 2) (v := (N (37 + 2 * i) 2)) hP (by omega) (by rw [gEr_well (by omega)]; rfl)
  refine lv_aload_n hx hb dX4_take_24 rfl (lv_at hl 0 rfl) ?_
  refine lv_aload_n hx hb dX4_take_25 rfl (lv_at hl 1 rfl) ?_
  refine x_get (ref := RX4) (C := RX4) (T := TX4) (N := 5) (ci := 4) (v := .int (N (37 + 2 * i) 3)) hx hb hts iX4 hown hK.1 hP (by omega) (by omega) (((gw_out (by omega)).trans (gw_well (by omega)))) rfl 3 (by decide) (hts (.fieldLink RX4 9 "PoreField$Well" "rank" "I") (by decide +kernel)) (fun _ h9 => h9) rfl dX4_take_26 ?_
  refine x_put (ty := .int) (ref := RX4) (C := RX4) (T := TX4) (N := 5) (ci := 4) (v := .int (N (37 + 2 * i) 3)) hx hb hts iX4 tyX4 tyX4_ok nmX4 hown hK.1 hP hS (by omega) (by omega) (gw_well (by omega)) rfl 3 (by decide) (hts (.fieldLink RX4 9 "PoreField$Well" "rank" "I") (by decide +kernel)) (fun _ h9 => h9) rfl (by decide +kernel) rfl rfl (Nat.le_of_ble_eq_true rfl) dX4_take_29 (fun H locs hP hS => ?_)
  have hP := gp (k := 37 + 2 * i) (j := 3) (v := (N (37 + 2 * i) 3)) hP (by omega) (by rw [gEr_well (by omega)]; rfl)
  exact W.vret hx hb hr (fun tE ht hW => ⟨⟨(), rfl, trivial, x_at ht (hP)⟩, hS.F ht⟩) hS.2.2 dX4_take_32

set_option maxRecDepth 100000 in
set_option maxHeartbeats 4000000 in
/-- Well.forgetMonth -/
theorem c_X4_forgetMonth (l : Launch) (D : va_G) (cy : Nat → ClassId) (lo n : Nat) (w0 : Nat → va_E) (g : Nat) (M : Mem) (hg1 : lo ≤ g) (hg2 : g + 49 ≤ lo + n) (w : Nat) (hw : w < 6) : Met l yX4_forgetMonth wsX4_forgetMonth ({ frames := 0, cells := 0, slots := 0, locals := 0 }) (PcW D cy lo n (gw cy w0 g M) [.ref (g + (37 + 2 * w))]) (QvW D lo n (gw cy w0 g (m_forget w M))) 0 0 (fun q : Nat => lo ≤ q) := by
  refine Met.ofW (cc := cX4_forgetMonth) (maxL := 2) (ret := none) (by decide) rfl ?_
  intro p e s m args below meth c s₁ B hml hv
  obtain ⟨rfl, hP, hK, hS⟩ := x_entry hv
  have hx := B.exec
  have hb := B.bytes
  have hr := B.returns
  have hts := atoms_spec (ws := wsX4_forgetMonth) B.pre
  have hown : s.vm.findClass RX4 = some m.cls := findClass_of_methodNamed B.named
  have hlocks := B.notSynchronized
  have iX4 : ∀ w ∈ u_ws RX4 TX4 5, w ∈ wsX4_forgetMonth := by decide +kernel
  have hl := lv_entry ([.ref (g + (37 + 2 * w))]) (n := 2) (Nat.le_of_ble_eq_true rfl)
  rw [lg_entry_eq]
  generalize (lg_sl ([.ref (g + (37 + 2 * w))]) ++ List.replicate (2 - (lg_sl ([.ref (g + (37 + 2 * w))])).length) Slot.unset).toArray = ls at hl ⊢
  have hl : lv_has ls 2 [(0, .ref (g + (37 + 2 * w)))] := hl
  refine lv_iconst (v := 0) hx hb dX4_forgetMonth_0 (by decide) ?_
  refine lv_istore_n (lv' := [(1, .int (0 : Int32)), (0, .ref (g + (37 + 2 * w)))]) hx hb dX4_forgetMonth_1 rfl hl (by decide) rfl (fun ls hl => ?_)
  have hloop2 : ∀ (f_r f : Nat) (H : Heap) (locs : List Loc) (ls : Array Slot), f + f_r = 3 → lv_has ls 2 [(1, .int (nI f)), (0, .ref (g + (37 + 2 * w)))] → va_P D vwCl (rl lo n (gw cy w0 g (fo (fun f M => u2 M (38 + 2 * w) f 0) f M))) H → va_S (fun q : Nat => lo ≤ q) s.heap H locs → W p l e (headSpec wsX4_forgetMonth ({ frames := 0, cells := 0, slots := 0, locals := 0 })).room s m (([.ref (g + (37 + 2 * w))] : List Value).toArray) below meth c H locs 0 0 (MQ below (QvW D lo n (gw cy w0 g (m_forget w M))) (([.ref (g + (37 + 2 * w))] : List Value).toArray) s 0 0 (fun q : Nat => lo ≤ q)) (F0 m 2 ls []) := by
    intro f_r
    induction f_r with
    | zero =>
      intro f H locs ls hk2 hl hP hS
      obtain rfl : f = 3 := by omega
      refine lv_iload_n hx hb dX4_forgetMonth_2 rfl (lv_at hl 0 rfl) ?_
      refine lv_iconst (v := 3) hx hb dX4_forgetMonth_3 (by decide) ?_
      refine lv_icmp_ge (tgt := 20) hx hb dX4_forgetMonth_4 (by decide) (fun _ => ?_) (fun c => absurd ((br_le (show (3 : Int32) = nI 3 from rfl) (show (nI 3) = nI 3 from rfl) (by omega) (by omega)).mpr (by omega)) c)
      exact W.vret hx hb hr (fun tE ht hW => ⟨⟨(), rfl, trivial, x_at ht (hP)⟩, hS.F ht⟩) hS.2.2 dX4_forgetMonth_20
    | succ f_r ih2 =>
      intro f H locs ls hk2 hl hP hS
      refine lv_iload_n hx hb dX4_forgetMonth_2 rfl (lv_at hl 0 rfl) ?_
      refine lv_iconst (v := 3) hx hb dX4_forgetMonth_3 (by decide) ?_
      refine lv_icmp_ge (tgt := 20) hx hb dX4_forgetMonth_4 (by decide) (fun c => absurd ((br_le (show (3 : Int32) = nI 3 from rfl) (show (nI f) = nI f from rfl) (by omega) (by omega)).mp c) (by omega)) (fun _ => ?_)
      refine lv_aload_n hx hb dX4_forgetMonth_7 rfl (lv_at hl 1 rfl) ?_
      refine x_get (ref := RX4) (C := RX4) (T := TX4) (N := 5) (ci := 4) (v := .ref (g + (38 + 2 * w))) hx hb hts iX4 hown hK.1 hP (by omega) (by omega) (gw_well (by omega)) rfl 4 (by decide) (hts (.fieldLink RX4 15 "PoreField$Well" "gave" "[I") (by decide +kernel)) (fun _ h9 => h9) rfl dX4_forgetMonth_8 ?_
      refine lv_iload_n hx hb dX4_forgetMonth_11 rfl (lv_at hl 0 rfl) ?_
      refine lv_iconst (v := 0) hx hb dX4_forgetMonth_12 (by decide) ?_
      refine x_iast (v := (0 : Int32)) hx hb hK.1 hP hS (by omega) (by omega) 0 (gw_row (gRow_gave (by omega))) rfl (cl_of_nI (i := f) rfl (by omega)) (vp_in_of_nI (i := f) rfl (by omega) (by omega)) dX4_forgetMonth_13 (fun H locs hP hS => ?_)
      have hP := gpr (k := 38 + 2 * w) (j := f) (v := (0 : Int32)) hP (gRow_gave (by omega))
      refine lv_iinc (v := (nI (f + 1))) (lv' := [(1, .int (nI (f + 1))), (0, .ref (g + (37 + 2 * w)))]) hx hb dX4_forgetMonth_14 hl (k := 0) rfl (nI_1 _) (by decide) rfl (fun ls hl => ?_)
      refine lv_goto (tgt := 2) hx hb dX4_forgetMonth_17 (by decide) ?_
      exact ih2 (f + 1) _ _ _ (by omega) (lv_sub hl [0, 1] rfl) (hP) hS
  exact hloop2 3 0 _ _ _ (by omega) (lv_sub hl [0, 1] rfl) (hP) hS

set_option maxRecDepth 100000 in
set_option maxHeartbeats 4000000 in
/-- Well.hasProduced -/
theorem c_X4_hasProduced (l : Launch) (D : va_G) (cy : Nat → ClassId) (lo n : Nat) (w0 : Nat → va_E) (g : Nat) (M : Mem) (hg1 : lo ≤ g) (hg2 : g + 49 ≤ lo + n) (w : Nat) (hw : w < 6) : Met l yX4_hasProduced wsX4_hasProduced ({ frames := 0, cells := 0, slots := 0, locals := 0 }) (PcW D cy lo n (gw cy w0 g M) [.ref (g + (37 + 2 * w))]) (QiW D lo n (gw cy w0 g M) (m_hasP M w)) 0 0 (fun q : Nat => lo ≤ q) := by
  refine Met.ofW (cc := cX4_hasProduced) (maxL := 1) (ret := (some .boolean)) (by decide) rfl ?_
  intro p e s m args below meth c s₁ B hml hv
  obtain ⟨rfl, hP, hK, hS⟩ := x_entry hv
  have hx := B.exec
  have hb := B.bytes
  have hr := B.returns
  have hts := atoms_spec (ws := wsX4_hasProduced) B.pre
  have hown : s.vm.findClass RX4 = some m.cls := findClass_of_methodNamed B.named
  have hlocks := B.notSynchronized
  have iX4 : ∀ w ∈ u_ws RX4 TX4 5, w ∈ wsX4_hasProduced := by decide +kernel
  have hl := lv_entry ([.ref (g + (37 + 2 * w))]) (n := 1) (Nat.le_of_ble_eq_true rfl)
  rw [lg_entry_eq]
  generalize (lg_sl ([.ref (g + (37 + 2 * w))]) ++ List.replicate (1 - (lg_sl ([.ref (g + (37 + 2 * w))])).length) Slot.unset).toArray = ls at hl ⊢
  have hl : lv_has ls 1 [(0, .ref (g + (37 + 2 * w)))] := hl
  refine lv_aload_n hx hb dX4_hasProduced_0 rfl (lv_at hl 0 rfl) ?_
  refine x_get (ref := RX4) (C := RX4) (T := TX4) (N := 5) (ci := 4) (v := .int (M (37 + 2 * w) 0)) hx hb hts iX4 hown hK.1 hP (by omega) (by omega) (gw_well (by omega)) rfl 0 (by decide) (hts (.fieldLink RX4 19 "PoreField$Well" "kind" "I") (by decide +kernel)) (fun _ h9 => h9) rfl dX4_hasProduced_1 ?_
  refine lv_if_ne (tgt := 34) hx hb dX4_hasProduced_4 (by decide) (fun c_4 => ?_) (fun c_4 => ?_)
  · refine lv_iconst (v := 0) hx hb dX4_hasProduced_34 (by decide) ?_
    exact W.zret (v := (0 : Int32)) hx hb hr rfl (fun tE ht hW => ⟨⟨(0 : Int32), (), rfl, (by simp only [m_hasP, if_neg c_4]), x_at ht (hP)⟩, hS.F ht⟩) hS.2.2 dX4_hasProduced_35
  · refine lv_aload_n hx hb dX4_hasProduced_7 rfl (lv_at hl 0 rfl) ?_
    refine x_get (ref := RX4) (C := RX4) (T := TX4) (N := 5) (ci := 4) (v := .ref (g + (38 + 2 * w))) hx hb hts iX4 hown hK.1 hP (by omega) (by omega) (gw_well (by omega)) rfl 4 (by decide) (hts (.fieldLink RX4 15 "PoreField$Well" "gave" "[I") (by decide +kernel)) (fun _ h9 => h9) rfl dX4_hasProduced_8 ?_
    refine lv_iconst (v := 0) hx hb dX4_hasProduced_11 (by decide) ?_
    refine x_iald hx hb hK.1 hP (by omega) (by omega) 0 (gw_row (gRow_gave (by omega))) rfl (cl_of_nI (i := 0) rfl (by omega)) (vp_in_of_nI (i := 0) rfl (by omega) (by omega)) dX4_hasProduced_12 ?_
    refine lv_aload_n hx hb dX4_hasProduced_13 rfl (lv_at hl 0 rfl) ?_
    refine x_get (ref := RX4) (C := RX4) (T := TX4) (N := 5) (ci := 4) (v := .ref (g + (38 + 2 * w))) hx hb hts iX4 hown hK.1 hP (by omega) (by omega) (gw_well (by omega)) rfl 4 (by decide) (hts (.fieldLink RX4 15 "PoreField$Well" "gave" "[I") (by decide +kernel)) (fun _ h9 => h9) rfl dX4_hasProduced_14 ?_
    refine lv_iconst (v := 1) hx hb dX4_hasProduced_17 (by decide) ?_
    refine x_iald hx hb hK.1 hP (by omega) (by omega) 0 (gw_row (gRow_gave (by omega))) rfl (cl_of_nI (i := 1) rfl (by omega)) (vp_in_of_nI (i := 1) rfl (by omega) (by omega)) dX4_hasProduced_18 ?_
    refine lv_iadd hx hb dX4_hasProduced_19 ?_
    refine lv_aload_n hx hb dX4_hasProduced_20 rfl (lv_at hl 0 rfl) ?_
    refine x_get (ref := RX4) (C := RX4) (T := TX4) (N := 5) (ci := 4) (v := .ref (g + (38 + 2 * w))) hx hb hts iX4 hown hK.1 hP (by omega) (by omega) (gw_well (by omega)) rfl 4 (by decide) (hts (.fieldLink RX4 15 "PoreField$Well" "gave" "[I") (by decide +kernel)) (fun _ h9 => h9) rfl dX4_hasProduced_21 ?_
    refine lv_iconst (v := 2) hx hb dX4_hasProduced_24 (by decide) ?_
    refine x_iald hx hb hK.1 hP (by omega) (by omega) 0 (gw_row (gRow_gave (by omega))) rfl (cl_of_nI (i := 2) rfl (by omega)) (vp_in_of_nI (i := 2) rfl (by omega) (by omega)) dX4_hasProduced_25 ?_
    refine lv_iadd hx hb dX4_hasProduced_26 ?_
    refine lv_if_le (tgt := 34) hx hb dX4_hasProduced_27 (by decide) (fun c_27 => ?_) (fun c_27 => ?_)
    · refine lv_iconst (v := 0) hx hb dX4_hasProduced_34 (by decide) ?_
      exact W.zret (v := (0 : Int32)) hx hb hr rfl (fun tE ht hW => ⟨⟨(0 : Int32), (), rfl, (by simp only [m_hasP, if_pos c_4, if_pos c_27]), x_at ht (hP)⟩, hS.F ht⟩) hS.2.2 dX4_hasProduced_35
    · refine lv_iconst (v := 1) hx hb dX4_hasProduced_30 (by decide) ?_
      refine lv_goto (tgt := 35) hx hb dX4_hasProduced_31 (by decide) ?_
      exact W.zret (v := (1 : Int32)) hx hb hr rfl (fun tE ht hW => ⟨⟨(1 : Int32), (), rfl, (by simp only [m_hasP, if_pos c_4, if_neg c_27]), x_at ht (hP)⟩, hS.F ht⟩) hS.2.2 dX4_hasProduced_35
end
section
set_option maxRecDepth 100000 in
set_option maxHeartbeats 4000000 in
/-- Ground.mayComeUp -/
theorem c_X2_mayComeUp (l : Launch) (D : va_G) (cy : Nat → ClassId) (lo n : Nat) (w0 : Nat → va_E) (g : Nat) (M : Mem) (hg1 : lo ≤ g) (hg2 : g + 49 ≤ lo + n) (f : Nat) (hf : f < 3) : Met l yX2_mayComeUp wsX2_mayComeUp ({ frames := 1, cells := 0, slots := 0, locals := 24 }) (PcW D cy lo n (gw cy w0 g M) [.ref g, .int (nI f)]) (QiW D lo n (gw cy w0 g M) (m_may M f)) 0 0 (fun q : Nat => lo ≤ q) := by
  refine Met.ofW (cc := cX2_mayComeUp) (maxL := 3) (ret := (some .int)) (by decide) rfl ?_
  intro p e s m args below meth c s₁ B hml hv
  obtain ⟨rfl, hP, hK, hS⟩ := x_entry hv
  have hx := B.exec
  have hb := B.bytes
  have hr := B.returns
  have hts := atoms_spec (ws := wsX2_mayComeUp) B.pre
  have hown : s.vm.findClass RX2 = some m.cls := findClass_of_methodNamed B.named
  have hlocks := B.notSynchronized
  have iX2 : ∀ w ∈ u_ws RX2 TX2 12, w ∈ wsX2_mayComeUp := by decide +kernel
  have hl := lv_entry ([.ref g, .int (nI f)]) (n := 3) (Nat.le_of_ble_eq_true rfl)
  rw [lg_entry_eq]
  generalize (lg_sl ([.ref g, .int (nI f)]) ++ List.replicate (3 - (lg_sl ([.ref g, .int (nI f)])).length) Slot.unset).toArray = ls at hl ⊢
  have hl : lv_has ls 3 [(0, .ref g), (1, .int (nI f))] := hl
  refine lv_aload_n hx hb dX2_mayComeUp_0 rfl (lv_at hl 0 rfl) ?_
  refine x_get (ref := RX2) (C := RX2) (T := TX2) (N := 12) (ci := 2) (v := .ref (g + 3)) hx hb hts iX2 hown hK.1 hP (by omega) (by omega) (gw_0) rfl 3 (by decide) (hts (.fieldLink RX2 23 "PoreField$Ground" "capacity" "[I") (by decide +kernel)) (fun _ h9 => h9) rfl dX2_mayComeUp_1 ?_
  refine lv_iload_n hx hb dX2_mayComeUp_4 rfl (lv_at hl 1 rfl) ?_
  refine x_iald hx hb hK.1 hP (by omega) (by omega) 0 (gw_row (gRow_3)) rfl (cl_of_nI (i := f) rfl (by omega)) (vp_in_of_nI (i := f) rfl (by omega) (by omega)) dX2_mayComeUp_5 ?_
  refine lv_aload_n hx hb dX2_mayComeUp_6 rfl (lv_at hl 0 rfl) ?_
  refine x_get (ref := RX2) (C := RX2) (T := TX2) (N := 12) (ci := 2) (v := .ref (g + 4)) hx hb hts iX2 hown hK.1 hP (by omega) (by omega) (gw_0) rfl 7 (by decide) (hts (.fieldLink RX2 34 "PoreField$Ground" "cameUp" "[I") (by decide +kernel)) (fun _ h9 => h9) rfl dX2_mayComeUp_7 ?_
  refine lv_iload_n hx hb dX2_mayComeUp_10 rfl (lv_at hl 1 rfl) ?_
  refine x_iald hx hb hK.1 hP (by omega) (by omega) 0 (gw_row (gRow_4)) rfl (cl_of_nI (i := f) rfl (by omega)) (vp_in_of_nI (i := f) rfl (by omega) (by omega)) dX2_mayComeUp_11 ?_
  refine lv_isub hx hb dX2_mayComeUp_12 ?_
  refine lv_istore_n (lv' := [(2, .int ((M (3) f) - (M (4) f))), (0, .ref g), (1, .int (nI f))]) hx hb dX2_mayComeUp_13 rfl hl (by decide) rfl (fun ls hl => ?_)
  refine lv_iload_n hx hb dX2_mayComeUp_14 rfl (lv_at hl 2 rfl) ?_
  refine lv_if_ne (tgt := 32) hx hb dX2_mayComeUp_15 (by decide) (fun c_15 => ?_) (fun c_15 => ?_)
  · refine lv_iload_n hx hb dX2_mayComeUp_32 rfl (lv_at hl 2 rfl) ?_
    refine lv_iconst (v := 2) hx hb dX2_mayComeUp_33 (by decide) ?_
    refine lv_icmp_ne (tgt := 55) hx hb dX2_mayComeUp_34 (by decide) (fun c_34 => ?_) (fun c_34 => ?_)
    · refine lv_iload_n hx hb dX2_mayComeUp_55 rfl (lv_at hl 0 rfl) ?_
      exact W.iret (v := ((M (3) f) - (M (4) f))) hx hb hr (fun tE ht hW => ⟨⟨((M (3) f) - (M (4) f)), (), rfl, (by simp only [m_may, if_neg c_15, if_neg c_34]), x_at ht (hP)⟩, hS.F ht⟩) hS.2.2 dX2_mayComeUp_56
    · refine lv_iload_n hx hb dX2_mayComeUp_37 rfl (lv_at hl 0 rfl) ?_
      refine lv_aload_n hx hb dX2_mayComeUp_38 rfl (lv_at hl 1 rfl) ?_
      refine x_get (ref := RX2) (C := RX2) (T := TX2) (N := 12) (ci := 2) (v := .int (M 0 8)) hx hb hts iX2 hown hK.1 hP (by omega) (by omega) (gw_0) rfl 8 (by decide) (hts (.fieldLink RX2 97 "PoreField$Ground" "gasOutlets" "I") (by decide +kernel)) (fun _ h9 => h9) rfl dX2_mayComeUp_39 ?_
      refine lv_aload_n hx hb dX2_mayComeUp_42 rfl (lv_at hl 1 rfl) ?_
      refine x_get (ref := RX2) (C := RX2) (T := TX2) (N := 12) (ci := 2) (v := .ref (g + 4)) hx hb hts iX2 hown hK.1 hP (by omega) (by omega) (gw_0) rfl 7 (by decide) (hts (.fieldLink RX2 34 "PoreField$Ground" "cameUp" "[I") (by decide +kernel)) (fun _ h9 => h9) rfl dX2_mayComeUp_43 ?_
      refine lv_iconst (v := 2) hx hb dX2_mayComeUp_46 (by decide) ?_
      refine x_iald hx hb hK.1 hP (by omega) (by omega) 0 (gw_row (gRow_4)) rfl (cl_of_nI (i := 2) rfl (by omega)) (vp_in_of_nI (i := 2) rfl (by omega) (by omega)) dX2_mayComeUp_47 ?_
      refine lv_isub hx hb dX2_mayComeUp_48 ?_
      refine va_mmin (own := RX2) hx hb (hml.trans hl.1.symm) hown (hts (.methodLink RX2 125 Lib.Math.min.name) (by decide +kernel)) (hts (.static Lib.Math.min.name) (by decide +kernel)) (hts (.initialized "java/lang/Math") (by decide +kernel)) (hts (.code Lib.Math.min.name Lib.Math.min.code 2 (some .int)) (by decide +kernel)) (Nat.le_of_ble_eq_true rfl) (Nat.le_of_ble_eq_true rfl) (Nat.zero_le _) (Nat.zero_le _) dX2_mayComeUp_49 ?_
      refine lv_goto (tgt := 56) hx hb dX2_mayComeUp_52 (by decide) ?_
      exact W.iret (v := (jmin ((M (3) f) - (M (4) f)) ((M 0 8) - (M (4) 2)))) hx hb hr (fun tE ht hW => ⟨⟨(jmin ((M (3) f) - (M (4) f)) ((M 0 8) - (M (4) 2))), (), rfl, (by simp only [m_may, if_neg c_15, if_pos c_34]), x_at ht (hP)⟩, hS.F ht⟩) hS.2.2 dX2_mayComeUp_56
  · refine lv_iload_n hx hb dX2_mayComeUp_18 rfl (lv_at hl 0 rfl) ?_
    refine lv_aload_n hx hb dX2_mayComeUp_19 rfl (lv_at hl 1 rfl) ?_
    refine x_get (ref := RX2) (C := RX2) (T := TX2) (N := 12) (ci := 2) (v := .int (M 0 5)) hx hb hts iX2 hown hK.1 hP (by omega) (by omega) (gw_0) rfl 5 (by decide) (hts (.fieldLink RX2 31 "PoreField$Ground" "tankSize" "I") (by decide +kernel)) (fun _ h9 => h9) rfl dX2_mayComeUp_20 ?_
    refine lv_aload_n hx hb dX2_mayComeUp_23 rfl (lv_at hl 1 rfl) ?_
    refine x_get (ref := RX2) (C := RX2) (T := TX2) (N := 12) (ci := 2) (v := .int (M 0 6)) hx hb hts iX2 hown hK.1 hP (by omega) (by omega) (gw_0) rfl 6 (by decide) (hts (.fieldLink RX2 55 "PoreField$Ground" "tankHas" "I") (by decide +kernel)) (fun _ h9 => h9) rfl dX2_mayComeUp_24 ?_
    refine lv_isub hx hb dX2_mayComeUp_27 ?_
    refine va_mmin (own := RX2) hx hb (hml.trans hl.1.symm) hown (hts (.methodLink RX2 125 Lib.Math.min.name) (by decide +kernel)) (hts (.static Lib.Math.min.name) (by decide +kernel)) (hts (.initialized "java/lang/Math") (by decide +kernel)) (hts (.code Lib.Math.min.name Lib.Math.min.code 2 (some .int)) (by decide +kernel)) (Nat.le_of_ble_eq_true rfl) (Nat.le_of_ble_eq_true rfl) (Nat.zero_le _) (Nat.zero_le _) dX2_mayComeUp_28 ?_
    exact W.iret (v := (jmin ((M (3) f) - (M (4) f)) ((M 0 5) - (M 0 6)))) hx hb hr (fun tE ht hW => ⟨⟨(jmin ((M (3) f) - (M (4) f)) ((M 0 5) - (M 0 6))), (), rfl, (by simp only [m_may, if_pos c_15]), x_at ht (hP)⟩, hS.F ht⟩) hS.2.2 dX2_mayComeUp_31

set_option maxRecDepth 100000 in
set_option maxHeartbeats 4000000 in
/-- Ground.putIn -/
theorem c_X2_putIn (l : Launch) (D : va_G) (cy : Nat → ClassId) (lo n : Nat) (w0 : Nat → va_E) (g : Nat) (M : Mem) (hg1 : lo ≤ g) (hg2 : g + 49 ≤ lo + n) (nd : Nat) (hG : GI nd M) (w : Nat) (hw : w < 6) (f : Nat) (hf : f < 3) (x : Int32) : Met l yX2_putIn wsX2_putIn ({ frames := 0, cells := 0, slots := 0, locals := 0 }) (PcW D cy lo n (gw cy w0 g M) [.ref g, .ref (g + (37 + 2 * w)), .int (nI f), .int x]) (QvW D lo n (gw cy w0 g (m_putIn M w f x))) 0 0 (fun q : Nat => lo ≤ q) := by
  refine Met.ofW (cc := cX2_putIn) (maxL := 4) (ret := none) (by decide) rfl ?_
  intro p e s m args below meth c s₁ B hml hv
  obtain ⟨rfl, hP, hK, hS⟩ := x_entry hv
  have hx := B.exec
  have hb := B.bytes
  have hr := B.returns
  have hts := atoms_spec (ws := wsX2_putIn) B.pre
  have hown : s.vm.findClass RX2 = some m.cls := findClass_of_methodNamed B.named
  have hlocks := B.notSynchronized
  have iX1 : ∀ w ∈ u_ws RX1 TX1 4, w ∈ wsX2_putIn := by decide +kernel
  have iX2 : ∀ w ∈ u_ws RX2 TX2 12, w ∈ wsX2_putIn := by decide +kernel
  have iX4 : ∀ w ∈ u_ws RX4 TX4 5, w ∈ wsX2_putIn := by decide +kernel
  have hl := lv_entry ([.ref g, .ref (g + (37 + 2 * w)), .int (nI f), .int x]) (n := 4) (Nat.le_of_ble_eq_true rfl)
  rw [lg_entry_eq]
  generalize (lg_sl ([.ref g, .ref (g + (37 + 2 * w)), .int (nI f), .int x]) ++ List.replicate (4 - (lg_sl ([.ref g, .ref (g + (37 + 2 * w)), .int (nI f), .int x])).length) Slot.unset).toArray = ls at hl ⊢
  have hl : lv_has ls 4 [(0, .ref g), (1, .ref (g + (37 + 2 * w))), (2, .int (nI f)), (3, .int x)] := hl
  refine lv_aload_n hx hb dX2_putIn_0 rfl (lv_at hl 0 rfl) ?_
  refine x_get (ref := RX2) (C := RX2) (T := TX2) (N := 12) (ci := 2) (v := .ref (g + 1)) hx hb hts iX2 hown hK.1 hP (by omega) (by omega) (gw_0) rfl 0 (by decide) (hts (.fieldLink RX2 11 "PoreField$Ground" "cells" "[LPoreField$Cell;") (by decide +kernel)) (fun _ h9 => h9) rfl dX2_putIn_1 ?_
  refine lv_aload_n hx hb dX2_putIn_4 rfl (lv_at hl 1 rfl) ?_
  have hcx := hG.cx (w := w) (by omega)
  refine x_get (ref := RX4) (C := RX4) (T := TX4) (N := 5) (ci := 4) (v := .int (M (37 + 2 * w) 1)) hx hb hts iX4 hown hK.1 hP (by omega) (by omega) (gw_well (by omega)) rfl 1 (by decide) (hts (.fieldLink RX2 106 "PoreField$Well" "cell" "I") (by decide +kernel)) (fun _ h9 => h9) rfl dX2_putIn_5 ?_
  refine x_aald (b := (g + (5 + 2 * (cix M w)))) hx hb hK.1 hP (by omega) (by omega) 1 (gw_1) rfl (cl_of_nI (i := (cix M w)) (hG.ce (by omega)) (by omega)) rfl (vp_in_of_nI (i := (cix M w)) (hG.ce (by omega)) (by omega) (by omega)) dX2_putIn_8 ?_
  refine x_get (ref := RX1) (C := RX1) (T := TX1) (N := 4) (ci := 1) (v := .ref (g + (6 + 2 * (cix M w)))) hx hb hts iX1 hown hK.1 hP (by omega) (by omega) (gw_cell (by omega)) rfl 1 (by decide) (hts (.fieldLink RX2 58 "PoreField$Cell" "fluids" "[I") (by decide +kernel)) (fun _ h9 => h9) rfl dX2_putIn_9 ?_
  refine lv_iload_n hx hb dX2_putIn_12 rfl (lv_at hl 2 rfl) ?_
  refine lv_dup2_11 hx hb dX2_putIn_13 rfl rfl ?_
  refine x_iald hx hb hK.1 hP (by omega) (by omega) 0 (gw_row (gRow_fl (by omega))) rfl (cl_of_nI (i := f) rfl (by omega)) (vp_in_of_nI (i := f) rfl (by omega) (by omega)) dX2_putIn_14 ?_
  refine lv_iload_n hx hb dX2_putIn_15 rfl (lv_at hl 3 rfl) ?_
  refine lv_iadd hx hb dX2_putIn_16 ?_
  refine x_iast (v := ((M (6 + 2 * (cix M w)) f) + x)) hx hb hK.1 hP hS (by omega) (by omega) 0 (gw_row (gRow_fl (by omega))) rfl (cl_of_nI (i := f) rfl (by omega)) (vp_in_of_nI (i := f) rfl (by omega) (by omega)) dX2_putIn_17 (fun H locs hP hS => ?_)
  have hP := gpr (k := 6 + 2 * (cix M w)) (j := f) (v := ((M (6 + 2 * (cix M w)) f) + x)) hP (gRow_fl (by omega))
  have hG : GI nd (u2 M (6 + 2 * (cix M w)) f ((M (6 + 2 * (cix M w)) f) + x)) := hG.cg (Cg.rf.u2 (by omega))
  refine lv_aload_n hx hb dX2_putIn_18 rfl (lv_at hl 1 rfl) ?_
  refine x_get (ref := RX4) (C := RX4) (T := TX4) (N := 5) (ci := 4) (v := .ref (g + (38 + 2 * w))) hx hb hts iX4 hown hK.1 hP (by omega) (by omega) (gw_well (by omega)) rfl 4 (by decide) (hts (.fieldLink RX2 128 "PoreField$Well" "gave" "[I") (by decide +kernel)) (fun _ h9 => h9) rfl dX2_putIn_19 ?_
  refine lv_iload_n hx hb dX2_putIn_22 rfl (lv_at hl 2 rfl) ?_
  refine lv_iload_n hx hb dX2_putIn_23 rfl (lv_at hl 3 rfl) ?_
  refine x_iast (v := x) hx hb hK.1 hP hS (by omega) (by omega) 0 (gw_row (gRow_gave (by omega))) rfl (cl_of_nI (i := f) rfl (by omega)) (vp_in_of_nI (i := f) rfl (by omega) (by omega)) dX2_putIn_24 (fun H locs hP hS => ?_)
  have hP := gpr (k := 38 + 2 * w) (j := f) (v := x) hP (gRow_gave (by omega))
  have hG : GI nd (u2 (u2 M (6 + 2 * (cix M w)) f ((M (6 + 2 * (cix M w)) f) + x)) (38 + 2 * w) f x) := hG.cg (Cg.rf.u2 (by omega))
  exact W.vret hx hb hr (fun tE ht hW => ⟨⟨(), rfl, trivial, x_at ht (hP)⟩, hS.F ht⟩) hS.2.2 dX2_putIn_25

set_option maxRecDepth 100000 in
set_option maxHeartbeats 4000000 in
/-- Ground.produce -/
theorem c_X2_produce (l : Launch) (D : va_G) (cy : Nat → ClassId) (lo n : Nat) (w0 : Nat → va_E) (g : Nat) (M : Mem) (hg1 : lo ≤ g) (hg2 : g + 49 ≤ lo + n) (nd : Nat) (hG : GI nd M) (w : Nat) (hw : w < 6)  : Met l yX2_produce wsX2_produce ({ frames := 2, cells := 0, slots := 0, locals := 49 }) (PcW D cy lo n (gw cy w0 g M) [.ref g, .ref (g + (37 + 2 * w))]) (QvW D lo n (gw cy w0 g (m_produce w M))) 0 0 (fun q : Nat => lo ≤ q) := by
  refine Met.ofW (cc := cX2_produce) (maxL := 6) (ret := none) (by decide) rfl ?_
  intro p e s m args below meth c s₁ B hml hv
  obtain ⟨rfl, hP, hK, hS⟩ := x_entry hv
  have hx := B.exec
  have hb := B.bytes
  have hr := B.returns
  have hts := atoms_spec (ws := wsX2_produce) B.pre
  have hown : s.vm.findClass RX2 = some m.cls := findClass_of_methodNamed B.named
  have hlocks := B.notSynchronized
  have iX2 : ∀ w ∈ u_ws RX2 TX2 12, w ∈ wsX2_produce := by decide +kernel
  have iX4 : ∀ w ∈ u_ws RX4 TX4 5, w ∈ wsX2_produce := by decide +kernel
  have hl := lv_entry ([.ref g, .ref (g + (37 + 2 * w))]) (n := 6) (Nat.le_of_ble_eq_true rfl)
  rw [lg_entry_eq]
  generalize (lg_sl ([.ref g, .ref (g + (37 + 2 * w))]) ++ List.replicate (6 - (lg_sl ([.ref g, .ref (g + (37 + 2 * w))])).length) Slot.unset).toArray = ls at hl ⊢
  have hl : lv_has ls 6 [(0, .ref g), (1, .ref (g + (37 + 2 * w)))] := hl
  have hG0 := hG
  refine lv_aload_n hx hb dX2_produce_0 rfl (lv_at hl 0 rfl) ?_
  refine x_get (ref := RX2) (C := RX2) (T := TX2) (N := 12) (ci := 2) (v := .ref (g + 1)) hx hb hts iX2 hown hK.1 hP (by omega) (by omega) (gw_0) rfl 0 (by decide) (hts (.fieldLink RX2 11 "PoreField$Ground" "cells" "[LPoreField$Cell;") (by decide +kernel)) (fun _ h9 => h9) rfl dX2_produce_1 ?_
  refine lv_aload_n hx hb dX2_produce_4 rfl (lv_at hl 1 rfl) ?_
  have hcx := hG.cx (w := w) (by omega)
  refine x_get (ref := RX4) (C := RX4) (T := TX4) (N := 5) (ci := 4) (v := .int (M (37 + 2 * w) 1)) hx hb hts iX4 hown hK.1 hP (by omega) (by omega) (gw_well (by omega)) rfl 1 (by decide) (hts (.fieldLink RX2 106 "PoreField$Well" "cell" "I") (by decide +kernel)) (fun _ h9 => h9) rfl dX2_produce_5 ?_
  refine x_aald (b := (g + (5 + 2 * (cix M w)))) hx hb hK.1 hP (by omega) (by omega) 1 (gw_1) rfl (cl_of_nI (i := (cix M w)) (hG.ce (by omega)) (by omega)) rfl (vp_in_of_nI (i := (cix M w)) (hG.ce (by omega)) (by omega) (by omega)) dX2_produce_8 ?_
  refine lv_astore_n (lv' := [(2, .ref (g + (5 + 2 * (cix M w)))), (0, .ref g), (1, .ref (g + (37 + 2 * w)))]) hx hb dX2_produce_9 rfl hl (by decide) rfl (fun ls hl => ?_)
  refine lv_iconst (v := 0) hx hb dX2_produce_10 (by decide) ?_
  refine lv_aload_n hx hb dX2_produce_11 rfl (lv_at hl 0 rfl) ?_
  refine x_calli (va_runV (As := []) (rest := [.int (0 : Int32)]) ⟨hx, hb, hml, hown, hts⟩ (c_X1_pressure l D cy lo n w0 g M (by omega) (by omega) (cix M w) (by omega) (hG.rm (by omega))) (cwV 0 hts gX2_produce_X1_pressure rfl rfl rfl (by decide +kernel) ⟨Nat.le_of_ble_eq_true rfl, Nat.le_of_ble_eq_true rfl⟩) (preV hP hK (x_recv (ci := 1) (q := (RX1, TX1, 4)) hK.1 hP (by omega) (by omega) rfl (gw_cell (by omega)))) rfl rfl hl.1 rfl (lv_room (Nat.le_of_ble_eq_true rfl)) dX2_produce_12 ⟨Nat.le_of_ble_eq_true rfl, Nat.le_of_ble_eq_true rfl⟩) hS (fun H locs hP hS => ?_)
  refine lv_bipush (v := 50) hx hb dX2_produce_15 (by decide) ?_
  refine lv_isub hx hb dX2_produce_17 ?_
  refine va_mmax (own := RX2) hx hb (hml.trans hl.1.symm) hown (hts (.methodLink RX2 112 Lib.Math.max.name) (by decide +kernel)) (hts (.static Lib.Math.max.name) (by decide +kernel)) (hts (.initialized "java/lang/Math") (by decide +kernel)) (hts (.code Lib.Math.max.name Lib.Math.max.code 2 (some .int)) (by decide +kernel)) (Nat.le_of_ble_eq_true rfl) (Nat.le_of_ble_eq_true rfl) (Nat.zero_le _) (Nat.zero_le _) dX2_produce_18 ?_
  refine lv_istore_n (lv' := [(3, .int (jmax (0 : Int32) ((m_pressure M (cix M w)) - (50 : Int32)))), (2, .ref (g + (5 + 2 * (cix M w)))), (0, .ref g), (1, .ref (g + (37 + 2 * w)))]) hx hb dX2_produce_21 rfl hl (by decide) rfl (fun ls hl => ?_)
  refine lv_aload_n hx hb dX2_produce_22 rfl (lv_at hl 3 rfl) ?_
  refine x_get (ref := RX4) (C := RX4) (T := TX4) (N := 5) (ci := 4) (v := .int (M (37 + 2 * w) 2)) hx hb hts iX4 hown hK.1 hP (by omega) (by omega) (gw_well (by omega)) rfl 2 (by decide) (hts (.fieldLink RX2 103 "PoreField$Well" "choke" "I") (by decide +kernel)) (fun _ h9 => h9) rfl dX2_produce_23 ?_
  refine lv_iload_n hx hb dX2_produce_26 rfl (lv_at hl 0 rfl) ?_
  refine lv_imul hx hb dX2_produce_27 ?_
  refine lv_bipush (v := 100) hx hb dX2_produce_28 (by decide) ?_
  refine lv_idiv hx hb dX2_produce_30 (by decide) ?_
  refine lv_istore (lv' := [(4, .int (((M (37 + 2 * w) 2) * (jmax (0 : Int32) ((m_pressure M (cix M w)) - (50 : Int32)))) / (100 : Int32))), (3, .int (jmax (0 : Int32) ((m_pressure M (cix M w)) - (50 : Int32)))), (2, .ref (g + (5 + 2 * (cix M w)))), (0, .ref g), (1, .ref (g + (37 + 2 * w)))]) hx hb dX2_produce_31 hl (by decide) rfl (fun ls hl => ?_)
  refine lv_iconst (v := 0) hx hb dX2_produce_33 (by decide) ?_
  refine lv_istore (lv' := [(5, .int (0 : Int32)), (4, .int (((M (37 + 2 * w) 2) * (jmax (0 : Int32) ((m_pressure M (cix M w)) - (50 : Int32)))) / (100 : Int32))), (3, .int (jmax (0 : Int32) ((m_pressure M (cix M w)) - (50 : Int32)))), (2, .ref (g + (5 + 2 * (cix M w)))), (0, .ref g), (1, .ref (g + (37 + 2 * w)))]) hx hb dX2_produce_34 hl (by decide) rfl (fun ls hl => ?_)
  have hloop36 : ∀ (f_r f : Nat) (H : Heap) (locs : List Loc) (ls : Array Slot), f + f_r = 3 → lv_has ls 6 [(5, .int (nI f)), (4, .int (fo (m_timesS M (cix M w)) f (m_times0 M w))), (3, .int (jmax 0 (m_pressure M (cix M w) - 50))), (2, .ref (g + (5 + 2 * (cix M w)))), (0, .ref g), (1, .ref (g + (37 + 2 * w)))] → va_P D vwCl (rl lo n (gw cy w0 g M)) H → va_S (fun q : Nat => lo ≤ q) s.heap H locs → W p l e (headSpec wsX2_produce ({ frames := 2, cells := 0, slots := 0, locals := 49 })).room s m (([.ref g, .ref (g + (37 + 2 * w))] : List Value).toArray) below meth c H locs 0 0 (MQ below (QvW D lo n (gw cy w0 g (m_produce w M))) (([.ref g, .ref (g + (37 + 2 * w))] : List Value).toArray) s 0 0 (fun q : Nat => lo ≤ q)) (F0 m 36 ls []) := by
    intro f_r
    induction f_r with
    | zero =>
      intro f H locs ls hk36 hl hP hS
      obtain rfl : f = 3 := by omega
      refine lv_iload hx hb dX2_produce_36 (lv_at hl 0 rfl) ?_
      refine lv_iconst (v := 3) hx hb dX2_produce_38 (by decide) ?_
      refine lv_icmp_ge (tgt := 67) hx hb dX2_produce_39 (by decide) (fun _ => ?_) (fun c => absurd ((br_le (show (3 : Int32) = nI 3 from rfl) (show (nI 3) = nI 3 from rfl) (by omega) (by omega)).mpr (by omega)) c)
      refine lv_aload_n hx hb dX2_produce_67 rfl (lv_at hl 3 rfl) ?_
      refine lv_iload hx hb dX2_produce_68 (lv_at hl 1 rfl) ?_
      refine lv_aload_n hx hb dX2_produce_70 rfl (lv_at hl 5 rfl) ?_
      refine x_get (ref := RX4) (C := RX4) (T := TX4) (N := 5) (ci := 4) (v := .ref (g + (38 + 2 * w))) hx hb hts iX4 hown hK.1 hP (by omega) (by omega) (gw_well (by omega)) rfl 4 (by decide) (hts (.fieldLink RX2 128 "PoreField$Well" "gave" "[I") (by decide +kernel)) (fun _ h9 => h9) rfl dX2_produce_71 ?_
      refine x_callv (va_runV (As := [.int (fo (m_timesS M (cix M w)) 3 (m_times0 M w)), .ref (g + (38 + 2 * w))]) (rest := []) ⟨hx, hb, hml, hown, hts⟩ (c_X1_moveOut l D cy lo n w0 g M (by omega) (by omega) (cix M w) (by omega) (fo (m_timesS M (cix M w)) 3 (m_times0 M w)) (38 + 2 * w) (gRow_gave (by omega))) (cwV 2 hts gX2_produce_X1_moveOut rfl rfl rfl (by decide +kernel) ⟨Nat.le_of_ble_eq_true rfl, Nat.le_of_ble_eq_true rfl⟩) (preV hP hK (x_recv (ci := 1) (q := (RX1, TX1, 4)) hK.1 hP (by omega) (by omega) rfl (gw_cell (by omega)))) rfl rfl hl.1 rfl (lv_room (Nat.le_of_ble_eq_true rfl)) dX2_produce_74 ⟨Nat.le_of_ble_eq_true rfl, Nat.le_of_ble_eq_true rfl⟩) hS (fun H locs hP hS => ?_)
      have hG : GI nd (m_moveOut M (cix M w) (fo (m_timesS M (cix M w)) 3 (m_times0 M w)) (38 + 2 * w)) := hG.cg (cg_moveOut (by omega))
      refine lv_iconst (v := 0) hx hb dX2_produce_77 (by decide) ?_
      refine lv_istore (lv' := [(5, .int (0 : Int32)), (4, .int (fo (m_timesS M (cix M w)) 3 (m_times0 M w))), (3, .int (jmax 0 (m_pressure M (cix M w) - 50))), (2, .ref (g + (5 + 2 * (cix M w)))), (0, .ref g), (1, .ref (g + (37 + 2 * w)))]) hx hb dX2_produce_78 hl (by decide) rfl (fun ls hl => ?_)
      have hloop80 : ∀ (f2_r f2 : Nat) (H : Heap) (locs : List Loc) (ls : Array Slot), f2 + f2_r = 3 → lv_has ls 6 [(5, .int (nI f2)), (0, .ref g), (1, .ref (g + (37 + 2 * w)))] → va_P D vwCl (rl lo n (gw cy w0 g (fo (m_upS w) f2 (m_moveOut M (cix M w) (m_times M w) (38 + 2 * w))))) H → va_S (fun q : Nat => lo ≤ q) s.heap H locs → W p l e (headSpec wsX2_produce ({ frames := 2, cells := 0, slots := 0, locals := 49 })).room s m (([.ref g, .ref (g + (37 + 2 * w))] : List Value).toArray) below meth c H locs 0 0 (MQ below (QvW D lo n (gw cy w0 g (m_produce w M))) (([.ref g, .ref (g + (37 + 2 * w))] : List Value).toArray) s 0 0 (fun q : Nat => lo ≤ q)) (F0 m 80 ls []) := by
        intro f2_r
        induction f2_r with
        | zero =>
          intro f2 H locs ls hk80 hl hP hS
          obtain rfl : f2 = 3 := by omega
          have hG : GI nd (fo (m_upS w) 3 (m_moveOut M (cix M w) (m_times M w) (38 + 2 * w))) := (hG0.cg (cg_moveOut (by omega))).cg (Cg.rf.fo (fun f x => Cg.rf.u2 (by omega)) 3)
          refine lv_iload hx hb dX2_produce_80 (lv_at hl 0 rfl) ?_
          refine lv_iconst (v := 3) hx hb dX2_produce_82 (by decide) ?_
          refine lv_icmp_ge (tgt := 109) hx hb dX2_produce_83 (by decide) (fun _ => ?_) (fun c => absurd ((br_le (show (3 : Int32) = nI 3 from rfl) (show (nI 3) = nI 3 from rfl) (by omega) (by omega)).mpr (by omega)) c)
          refine lv_aload_n hx hb dX2_produce_109 rfl (lv_at hl 1 rfl) ?_
          refine lv_dup hx hb dX2_produce_110 rfl ?_
          refine x_get (ref := RX2) (C := RX2) (T := TX2) (N := 12) (ci := 2) (v := .int ((fo (m_upS w) 3 (m_moveOut M (cix M w) (m_times M w) (38 + 2 * w))) 0 6)) hx hb hts iX2 hown hK.1 hP (by omega) (by omega) (gw_0) rfl 6 (by decide) (hts (.fieldLink RX2 55 "PoreField$Ground" "tankHas" "I") (by decide +kernel)) (fun _ h9 => h9) rfl dX2_produce_111 ?_
          refine lv_aload_n hx hb dX2_produce_114 rfl (lv_at hl 2 rfl) ?_
          refine x_get (ref := RX4) (C := RX4) (T := TX4) (N := 5) (ci := 4) (v := .ref (g + (38 + 2 * w))) hx hb hts iX4 hown hK.1 hP (by omega) (by omega) (gw_well (by omega)) rfl 4 (by decide) (hts (.fieldLink RX2 128 "PoreField$Well" "gave" "[I") (by decide +kernel)) (fun _ h9 => h9) rfl dX2_produce_115 ?_
          refine lv_iconst (v := 0) hx hb dX2_produce_118 (by decide) ?_
          refine x_iald hx hb hK.1 hP (by omega) (by omega) 0 (gw_row (gRow_gave (by omega))) rfl (cl_of_nI (i := 0) rfl (by omega)) (vp_in_of_nI (i := 0) rfl (by omega) (by omega)) dX2_produce_119 ?_
          refine lv_iadd hx hb dX2_produce_120 ?_
          refine x_put (ty := .int) (ref := RX2) (C := RX2) (T := TX2) (N := 12) (ci := 2) (v := .int (((fo (m_upS w) 3 (m_moveOut M (cix M w) (m_times M w) (38 + 2 * w))) 0 6) + ((fo (m_upS w) 3 (m_moveOut M (cix M w) (m_times M w) (38 + 2 * w))) (38 + 2 * w) 0))) hx hb hts iX2 tyX2 tyX2_ok nmX2 hown hK.1 hP hS (by omega) (by omega) (gw_0) rfl 6 (by decide) (hts (.fieldLink RX2 55 "PoreField$Ground" "tankHas" "I") (by decide +kernel)) (fun _ h9 => h9) rfl (by decide +kernel) rfl rfl (Nat.le_of_ble_eq_true rfl) dX2_produce_121 (fun H locs hP hS => ?_)
          have hP := gp0 (j := 6) (v := (((fo (m_upS w) 3 (m_moveOut M (cix M w) (m_times M w) (38 + 2 * w))) 0 6) + ((fo (m_upS w) 3 (m_moveOut M (cix M w) (m_times M w) (38 + 2 * w))) (38 + 2 * w) 0))) hP (rfl)
          have hG : GI nd (u2 (fo (m_upS w) 3 (m_moveOut M (cix M w) (m_times M w) (38 + 2 * w))) (0) 6 (((fo (m_upS w) 3 (m_moveOut M (cix M w) (m_times M w) (38 + 2 * w))) 0 6) + ((fo (m_upS w) 3 (m_moveOut M (cix M w) (m_times M w) (38 + 2 * w))) (38 + 2 * w) 0))) := hG.cg (Cg.rf.u2 (by omega))
          exact W.vret hx hb hr (fun tE ht hW => ⟨⟨(), rfl, trivial, x_at ht (hP)⟩, hS.F ht⟩) hS.2.2 dX2_produce_124
        | succ f2_r ih80 =>
          intro f2 H locs ls hk80 hl hP hS
          have hG : GI nd (fo (m_upS w) f2 (m_moveOut M (cix M w) (m_times M w) (38 + 2 * w))) := (hG0.cg (cg_moveOut (by omega))).cg (Cg.rf.fo (fun f x => Cg.rf.u2 (by omega)) f2)
          refine lv_iload hx hb dX2_produce_80 (lv_at hl 0 rfl) ?_
          refine lv_iconst (v := 3) hx hb dX2_produce_82 (by decide) ?_
          refine lv_icmp_ge (tgt := 109) hx hb dX2_produce_83 (by decide) (fun c => absurd ((br_le (show (3 : Int32) = nI 3 from rfl) (show (nI f2) = nI f2 from rfl) (by omega) (by omega)).mp c) (by omega)) (fun _ => ?_)
          refine lv_aload_n hx hb dX2_produce_86 rfl (lv_at hl 1 rfl) ?_
          refine x_get (ref := RX2) (C := RX2) (T := TX2) (N := 12) (ci := 2) (v := .ref (g + 4)) hx hb hts iX2 hown hK.1 hP (by omega) (by omega) (gw_0) rfl 7 (by decide) (hts (.fieldLink RX2 34 "PoreField$Ground" "cameUp" "[I") (by decide +kernel)) (fun _ h9 => h9) rfl dX2_produce_87 ?_
          refine lv_iload hx hb dX2_produce_90 (lv_at hl 0 rfl) ?_
          refine lv_dup2_11 hx hb dX2_produce_92 rfl rfl ?_
          refine x_iald hx hb hK.1 hP (by omega) (by omega) 0 (gw_row (gRow_4)) rfl (cl_of_nI (i := f2) rfl (by omega)) (vp_in_of_nI (i := f2) rfl (by omega) (by omega)) dX2_produce_93 ?_
          refine lv_aload_n hx hb dX2_produce_94 rfl (lv_at hl 2 rfl) ?_
          refine x_get (ref := RX4) (C := RX4) (T := TX4) (N := 5) (ci := 4) (v := .ref (g + (38 + 2 * w))) hx hb hts iX4 hown hK.1 hP (by omega) (by omega) (gw_well (by omega)) rfl 4 (by decide) (hts (.fieldLink RX2 128 "PoreField$Well" "gave" "[I") (by decide +kernel)) (fun _ h9 => h9) rfl dX2_produce_95 ?_
          refine lv_iload hx hb dX2_produce_98 (lv_at hl 0 rfl) ?_
          refine x_iald hx hb hK.1 hP (by omega) (by omega) 0 (gw_row (gRow_gave (by omega))) rfl (cl_of_nI (i := f2) rfl (by omega)) (vp_in_of_nI (i := f2) rfl (by omega) (by omega)) dX2_produce_100 ?_
          refine lv_iadd hx hb dX2_produce_101 ?_
          refine x_iast (v := (((fo (m_upS w) f2 (m_moveOut M (cix M w) (m_times M w) (38 + 2 * w))) (4) f2) + ((fo (m_upS w) f2 (m_moveOut M (cix M w) (m_times M w) (38 + 2 * w))) (38 + 2 * w) f2))) hx hb hK.1 hP hS (by omega) (by omega) 0 (gw_row (gRow_4)) rfl (cl_of_nI (i := f2) rfl (by omega)) (vp_in_of_nI (i := f2) rfl (by omega) (by omega)) dX2_produce_102 (fun H locs hP hS => ?_)
          have hP := gpr (k := 4) (j := f2) (v := (((fo (m_upS w) f2 (m_moveOut M (cix M w) (m_times M w) (38 + 2 * w))) (4) f2) + ((fo (m_upS w) f2 (m_moveOut M (cix M w) (m_times M w) (38 + 2 * w))) (38 + 2 * w) f2))) hP (gRow_4)
          have hG : GI nd (u2 (fo (m_upS w) f2 (m_moveOut M (cix M w) (m_times M w) (38 + 2 * w))) (4) f2 (((fo (m_upS w) f2 (m_moveOut M (cix M w) (m_times M w) (38 + 2 * w))) (4) f2) + ((fo (m_upS w) f2 (m_moveOut M (cix M w) (m_times M w) (38 + 2 * w))) (38 + 2 * w) f2))) := hG.cg (Cg.rf.u2 (by omega))
          refine lv_iinc (v := (nI (f2 + 1))) (lv' := [(5, .int (nI (f2 + 1))), (0, .ref g), (1, .ref (g + (37 + 2 * w)))]) hx hb dX2_produce_103 hl (k := 0) rfl (nI_1 _) (by decide) rfl (fun ls hl => ?_)
          refine lv_goto (tgt := 80) hx hb dX2_produce_106 (by decide) ?_
          exact ih80 (f2 + 1) _ _ _ (by omega) (lv_sub hl [0, 1, 2] rfl) (hP) hS
      exact hloop80 3 0 _ _ _ (by omega) (lv_sub hl [0, 4, 5] rfl) (hP) hS
    | succ f_r ih36 =>
      intro f H locs ls hk36 hl hP hS
      refine lv_iload hx hb dX2_produce_36 (lv_at hl 0 rfl) ?_
      refine lv_iconst (v := 3) hx hb dX2_produce_38 (by decide) ?_
      refine lv_icmp_ge (tgt := 67) hx hb dX2_produce_39 (by decide) (fun c => absurd ((br_le (show (3 : Int32) = nI 3 from rfl) (show (nI f) = nI f from rfl) (by omega) (by omega)).mp c) (by omega)) (fun _ => ?_)
      refine lv_iload hx hb dX2_produce_42 (lv_at hl 1 rfl) ?_
      refine lv_aload_n hx hb dX2_produce_44 rfl (lv_at hl 3 rfl) ?_
      refine lv_iload hx hb dX2_produce_45 (lv_at hl 0 rfl) ?_
      refine lv_aload_n hx hb dX2_produce_47 rfl (lv_at hl 4 rfl) ?_
      refine lv_iload hx hb dX2_produce_48 (lv_at hl 0 rfl) ?_
      refine x_calli (va_runV (As := [.int (nI f)]) (rest := [.int (nI f), .ref (g + (5 + 2 * (cix M w))), .int (fo (m_timesS M (cix M w)) f (m_times0 M w))]) ⟨hx, hb, hml, hown, hts⟩ (c_X2_mayComeUp l D cy lo n w0 g M (by omega) (by omega) f (by omega)) (cwV 1 hts gX2_produce_X2_mayComeUp rfl rfl rfl (by decide +kernel) ⟨Nat.le_of_ble_eq_true rfl, Nat.le_of_ble_eq_true rfl⟩) (preV hP hK (x_recv (ci := 2) (q := (RX2, TX2, 12)) hK.1 hP (by omega) (by omega) rfl (gw_0))) rfl rfl hl.1 rfl (lv_room (Nat.le_of_ble_eq_true rfl)) dX2_produce_50 ⟨Nat.le_of_ble_eq_true rfl, Nat.le_of_ble_eq_true rfl⟩) hS (fun H locs hP hS => ?_)
      refine x_calli (va_runV (As := [.int (nI f), .int (m_may M f)]) (rest := [.int (fo (m_timesS M (cix M w)) f (m_times0 M w))]) ⟨hx, hb, hml, hown, hts⟩ (c_X1_mostTimes l D cy lo n w0 g M (by omega) (by omega) (cix M w) (by omega) f (by omega) (m_may M f)) (cwV 2 hts gX2_produce_X1_mostTimes rfl rfl rfl (by decide +kernel) ⟨Nat.le_of_ble_eq_true rfl, Nat.le_of_ble_eq_true rfl⟩) (preV hP hK (x_recv (ci := 1) (q := (RX1, TX1, 4)) hK.1 hP (by omega) (by omega) rfl (gw_cell (by omega)))) rfl rfl hl.1 rfl (lv_room (Nat.le_of_ble_eq_true rfl)) dX2_produce_53 ⟨Nat.le_of_ble_eq_true rfl, Nat.le_of_ble_eq_true rfl⟩) hS (fun H locs hP hS => ?_)
      refine va_mmin (own := RX2) hx hb (hml.trans hl.1.symm) hown (hts (.methodLink RX2 125 Lib.Math.min.name) (by decide +kernel)) (hts (.static Lib.Math.min.name) (by decide +kernel)) (hts (.initialized "java/lang/Math") (by decide +kernel)) (hts (.code Lib.Math.min.name Lib.Math.min.code 2 (some .int)) (by decide +kernel)) (Nat.le_of_ble_eq_true rfl) (Nat.le_of_ble_eq_true rfl) (Nat.zero_le _) (Nat.zero_le _) dX2_produce_56 ?_
      refine lv_istore (lv' := [(4, .int (jmin (fo (m_timesS M (cix M w)) f (m_times0 M w)) (m_mostTimes M (cix M w) f (m_may M f)))), (5, .int (nI f)), (3, .int (jmax 0 (m_pressure M (cix M w) - 50))), (2, .ref (g + (5 + 2 * (cix M w)))), (0, .ref g), (1, .ref (g + (37 + 2 * w)))]) hx hb dX2_produce_59 hl (by decide) rfl (fun ls hl => ?_)
      refine lv_iinc (v := (nI (f + 1))) (lv' := [(5, .int (nI (f + 1))), (4, .int (jmin (fo (m_timesS M (cix M w)) f (m_times0 M w)) (m_mostTimes M (cix M w) f (m_may M f)))), (3, .int (jmax 0 (m_pressure M (cix M w) - 50))), (2, .ref (g + (5 + 2 * (cix M w)))), (0, .ref g), (1, .ref (g + (37 + 2 * w)))]) hx hb dX2_produce_61 hl (k := 1) rfl (nI_1 _) (by decide) rfl (fun ls hl => ?_)
      refine lv_goto (tgt := 36) hx hb dX2_produce_64 (by decide) ?_
      exact ih36 (f + 1) _ _ _ (by omega) (lv_sub hl [0, 1, 2, 3, 4, 5] rfl) (hP) hS
  exact hloop36 3 0 _ _ _ (by omega) (lv_sub hl [0, 1, 2, 3, 4, 5] rfl) (hP) hS

set_option maxRecDepth 100000 in
set_option maxHeartbeats 4000000 in
/-- Ground.startMonth -/
theorem c_X2_startMonth (l : Launch) (D : va_G) (cy : Nat → ClassId) (lo n : Nat) (w0 : Nat → va_E) (g : Nat) (M : Mem) (hg1 : lo ≤ g) (hg2 : g + 49 ≤ lo + n) (nd : Nat) (hG : GI nd M)  : Met l yX2_startMonth wsX2_startMonth ({ frames := 1, cells := 0, slots := 0, locals := 21 }) (PcW D cy lo n (gw cy w0 g M) [.ref g]) (QvW D lo n (gw cy w0 g (m_start nd M))) 0 0 (fun q : Nat => lo ≤ q) := by
  refine Met.ofW (cc := cX2_startMonth) (maxL := 2) (ret := none) (by decide) rfl ?_
  intro p e s m args below meth c s₁ B hml hv
  obtain ⟨rfl, hP, hK, hS⟩ := x_entry hv
  have hx := B.exec
  have hb := B.bytes
  have hr := B.returns
  have hts := atoms_spec (ws := wsX2_startMonth) B.pre
  have hown : s.vm.findClass RX2 = some m.cls := findClass_of_methodNamed B.named
  have hlocks := B.notSynchronized
  have iX2 : ∀ w ∈ u_ws RX2 TX2 12, w ∈ wsX2_startMonth := by decide +kernel
  have iX4 : ∀ w ∈ u_ws RX4 TX4 5, w ∈ wsX2_startMonth := by decide +kernel
  have hl := lv_entry ([.ref g]) (n := 2) (Nat.le_of_ble_eq_true rfl)
  rw [lg_entry_eq]
  generalize (lg_sl ([.ref g]) ++ List.replicate (2 - (lg_sl ([.ref g])).length) Slot.unset).toArray = ls at hl ⊢
  have hl : lv_has ls 2 [(0, .ref g)] := hl
  have hG0 := hG
  have hnd := hG.1
  refine lv_iconst (v := 0) hx hb dX2_startMonth_0 (by decide) ?_
  refine lv_istore_n (lv' := [(1, .int (0 : Int32)), (0, .ref g)]) hx hb dX2_startMonth_1 rfl hl (by decide) rfl (fun ls hl => ?_)
  have hloop2 : ∀ (f_r f : Nat) (H : Heap) (locs : List Loc) (ls : Array Slot), f + f_r = 3 → lv_has ls 2 [(1, .int (nI f)), (0, .ref g)] → va_P D vwCl (rl lo n (gw cy w0 g (fo (fun f M => u2 M 4 f 0) f M))) H → va_S (fun q : Nat => lo ≤ q) s.heap H locs → W p l e (headSpec wsX2_startMonth ({ frames := 1, cells := 0, slots := 0, locals := 21 })).room s m (([.ref g] : List Value).toArray) below meth c H locs 0 0 (MQ below (QvW D lo n (gw cy w0 g (m_start nd M))) (([.ref g] : List Value).toArray) s 0 0 (fun q : Nat => lo ≤ q)) (F0 m 2 ls []) := by
    intro f_r
    induction f_r with
    | zero =>
      intro f H locs ls hk2 hl hP hS
      obtain rfl : f = 3 := by omega
      have hG : GI nd (fo (fun f M => u2 M 4 f 0) 3 M) := hG0.cg cg_start0
      refine lv_iload_n hx hb dX2_startMonth_2 rfl (lv_at hl 0 rfl) ?_
      refine lv_iconst (v := 3) hx hb dX2_startMonth_3 (by decide) ?_
      refine lv_icmp_ge (tgt := 20) hx hb dX2_startMonth_4 (by decide) (fun _ => ?_) (fun c => absurd ((br_le (show (3 : Int32) = nI 3 from rfl) (show (nI 3) = nI 3 from rfl) (by omega) (by omega)).mpr (by omega)) c)
      refine lv_aload_n hx hb dX2_startMonth_20 rfl (lv_at hl 1 rfl) ?_
      refine lv_iconst (v := 0) hx hb dX2_startMonth_21 (by decide) ?_
      refine x_put (ty := .int) (ref := RX2) (C := RX2) (T := TX2) (N := 12) (ci := 2) (v := .int (0 : Int32)) hx hb hts iX2 tyX2 tyX2_ok nmX2 hown hK.1 hP hS (by omega) (by omega) (gw_0) rfl 10 (by decide) (hts (.fieldLink RX2 91 "PoreField$Ground" "putBack" "I") (by decide +kernel)) (fun _ h9 => h9) rfl (by decide +kernel) rfl rfl (Nat.le_of_ble_eq_true rfl) dX2_startMonth_22 (fun H locs hP hS => ?_)
      have hP := gp0 (j := 10) (v := (0 : Int32)) hP (rfl)
      have hG : GI nd (u2 (fo (fun f M => u2 M 4 f 0) 3 M) (0) 10 (0 : Int32)) := hG.cg (Cg.rf.u2 (by omega))
      refine lv_aload_n hx hb dX2_startMonth_25 rfl (lv_at hl 1 rfl) ?_
      refine lv_iconst (v := 0) hx hb dX2_startMonth_26 (by decide) ?_
      refine x_put (ty := .int) (ref := RX2) (C := RX2) (T := TX2) (N := 12) (ci := 2) (v := .int (0 : Int32)) hx hb hts iX2 tyX2 tyX2_ok nmX2 hown hK.1 hP hS (by omega) (by omega) (gw_0) rfl 11 (by decide) (hts (.fieldLink RX2 94 "PoreField$Ground" "waterIn" "I") (by decide +kernel)) (fun _ h9 => h9) rfl (by decide +kernel) rfl rfl (Nat.le_of_ble_eq_true rfl) dX2_startMonth_27 (fun H locs hP hS => ?_)
      have hP := gp0 (j := 11) (v := (0 : Int32)) hP (rfl)
      have hG : GI nd (u2 (u2 (fo (fun f M => u2 M 4 f 0) 3 M) (0) 10 (0 : Int32)) (0) 11 (0 : Int32)) := hG.cg (Cg.rf.u2 (by omega))
      refine lv_aload_n hx hb dX2_startMonth_30 rfl (lv_at hl 1 rfl) ?_
      refine lv_aload_n hx hb dX2_startMonth_31 rfl (lv_at hl 1 rfl) ?_
      refine x_get (ref := RX2) (C := RX2) (T := TX2) (N := 12) (ci := 2) (v := .int ((u2 (u2 (fo (fun f M => u2 M 4 f 0) 3 M) (0) 10 (0 : Int32)) (0) 11 (0 : Int32)) 0 4)) hx hb hts iX2 hown hK.1 hP (by omega) (by omega) (gw_0) rfl 4 (by decide) (hts (.fieldLink RX2 27 "PoreField$Ground" "permit" "I") (by decide +kernel)) (fun _ h9 => h9) rfl dX2_startMonth_32 ?_
      refine x_put (ty := .int) (ref := RX2) (C := RX2) (T := TX2) (N := 12) (ci := 2) (v := .int ((u2 (u2 (fo (fun f M => u2 M 4 f 0) 3 M) (0) 10 (0 : Int32)) (0) 11 (0 : Int32)) 0 4)) hx hb hts iX2 tyX2 tyX2_ok nmX2 hown hK.1 hP hS (by omega) (by omega) (gw_0) rfl 8 (by decide) (hts (.fieldLink RX2 97 "PoreField$Ground" "gasOutlets" "I") (by decide +kernel)) (fun _ h9 => h9) rfl (by decide +kernel) rfl rfl (Nat.le_of_ble_eq_true rfl) dX2_startMonth_35 (fun H locs hP hS => ?_)
      have hP := gp0 (j := 8) (v := ((u2 (u2 (fo (fun f M => u2 M 4 f 0) 3 M) (0) 10 (0 : Int32)) (0) 11 (0 : Int32)) 0 4)) hP (rfl)
      have hG : GI nd (u2 (u2 (u2 (fo (fun f M => u2 M 4 f 0) 3 M) (0) 10 (0 : Int32)) (0) 11 (0 : Int32)) (0) 8 ((u2 (u2 (fo (fun f M => u2 M 4 f 0) 3 M) (0) 10 (0 : Int32)) (0) 11 (0 : Int32)) 0 4)) := hG.cg (Cg.rf.u2 (by omega))
      refine lv_iconst (v := 0) hx hb dX2_startMonth_38 (by decide) ?_
      refine lv_istore_n (lv' := [(1, .int (0 : Int32)), (0, .ref g)]) hx hb dX2_startMonth_39 rfl hl (by decide) rfl (fun ls hl => ?_)
      have hloop40 : ∀ (w_r w : Nat) (H : Heap) (locs : List Loc) (ls : Array Slot), w + w_r = nd → lv_has ls 2 [(1, .int (nI w)), (0, .ref g)] → va_P D vwCl (rl lo n (gw cy w0 g (fo m_startS w (m_start1 M)))) H → va_S (fun q : Nat => lo ≤ q) s.heap H locs → W p l e (headSpec wsX2_startMonth ({ frames := 1, cells := 0, slots := 0, locals := 21 })).room s m (([.ref g] : List Value).toArray) below meth c H locs 0 0 (MQ below (QvW D lo n (gw cy w0 g (m_start nd M))) (([.ref g] : List Value).toArray) s 0 0 (fun q : Nat => lo ≤ q)) (F0 m 40 ls []) := by
        intro w_r
        induction w_r with
        | zero =>
          intro w H locs ls hk40 hl hP hS
          have ew : w = nd := by omega
          rw [ew] at hP
          rw [ew] at hl
          have hG : GI nd (fo m_startS nd (m_start1 M)) := (hG0.cg cg_start1).cg (Cg.rf.fo (fun w x => cg_startS) nd)
          refine lv_iload_n hx hb dX2_startMonth_40 rfl (lv_at hl 0 rfl) ?_
          refine lv_aload_n hx hb dX2_startMonth_41 rfl (lv_at hl 1 rfl) ?_
          refine x_get (ref := RX2) (C := RX2) (T := TX2) (N := 12) (ci := 2) (v := .int ((fo m_startS nd (m_start1 M)) 0 2)) hx hb hts iX2 hown hK.1 hP (by omega) (by omega) (gw_0) rfl 2 (by decide) (hts (.fieldLink RX2 46 "PoreField$Ground" "drilled" "I") (by decide +kernel)) (fun _ h9 => h9) rfl dX2_startMonth_42 ?_
          refine lv_icmp_ge (tgt := 96) hx hb dX2_startMonth_45 (by decide) (fun _ => ?_) (fun c => absurd ((br_le (show ((fo m_startS nd (m_start1 M)) 0 2) = nI nd from hG.dr) (show (nI nd) = nI nd from rfl) (by omega) (by omega)).mpr (by omega)) c)
          exact W.vret hx hb hr (fun tE ht hW => ⟨⟨(), rfl, trivial, x_at ht (hP)⟩, hS.F ht⟩) hS.2.2 dX2_startMonth_96
        | succ w_r ih40 =>
          intro w H locs ls hk40 hl hP hS
          have hG : GI nd (fo m_startS w (m_start1 M)) := (hG0.cg cg_start1).cg (Cg.rf.fo (fun w x => cg_startS) w)
          refine lv_iload_n hx hb dX2_startMonth_40 rfl (lv_at hl 0 rfl) ?_
          refine lv_aload_n hx hb dX2_startMonth_41 rfl (lv_at hl 1 rfl) ?_
          refine x_get (ref := RX2) (C := RX2) (T := TX2) (N := 12) (ci := 2) (v := .int ((fo m_startS w (m_start1 M)) 0 2)) hx hb hts iX2 hown hK.1 hP (by omega) (by omega) (gw_0) rfl 2 (by decide) (hts (.fieldLink RX2 46 "PoreField$Ground" "drilled" "I") (by decide +kernel)) (fun _ h9 => h9) rfl dX2_startMonth_42 ?_
          refine lv_icmp_ge (tgt := 96) hx hb dX2_startMonth_45 (by decide) (fun c => absurd ((br_le (show ((fo m_startS w (m_start1 M)) 0 2) = nI nd from hG.dr) (show (nI w) = nI w from rfl) (by omega) (by omega)).mp c) (by omega)) (fun _ => ?_)
          refine lv_aload_n hx hb dX2_startMonth_48 rfl (lv_at hl 1 rfl) ?_
          refine x_get (ref := RX2) (C := RX2) (T := TX2) (N := 12) (ci := 2) (v := .ref (g + 2)) hx hb hts iX2 hown hK.1 hP (by omega) (by omega) (gw_0) rfl 1 (by decide) (hts (.fieldLink RX2 19 "PoreField$Ground" "wells" "[LPoreField$Well;") (by decide +kernel)) (fun _ h9 => h9) rfl dX2_startMonth_49 ?_
          refine lv_iload_n hx hb dX2_startMonth_52 rfl (lv_at hl 0 rfl) ?_
          refine x_aald (b := (g + (37 + 2 * w))) hx hb hK.1 hP (by omega) (by omega) 2 (gw_2) rfl (cl_of_nI (i := w) rfl (by omega)) rfl (vp_in_of_nI (i := w) rfl (by omega) (by omega)) dX2_startMonth_53 ?_
          refine x_callv (va_runV (As := []) (rest := []) ⟨hx, hb, hml, hown, hts⟩ (c_X4_forgetMonth l D cy lo n w0 g (fo m_startS w (m_start1 M)) (by omega) (by omega) w (by omega)) (cwV 0 hts gX2_startMonth_X4_forgetMonth rfl rfl rfl (by decide +kernel) ⟨Nat.le_of_ble_eq_true rfl, Nat.le_of_ble_eq_true rfl⟩) (preV hP hK (x_recv (ci := 4) (q := (RX4, TX4, 5)) hK.1 hP (by omega) (by omega) rfl (gw_well (by omega)))) rfl rfl hl.1 rfl (lv_room (Nat.le_of_ble_eq_true rfl)) dX2_startMonth_54 ⟨Nat.le_of_ble_eq_true rfl, Nat.le_of_ble_eq_true rfl⟩) hS (fun H locs hP hS => ?_)
          have hG : GI nd (m_forget w (fo m_startS w (m_start1 M))) := hG.cg cg_forget
          refine lv_aload_n hx hb dX2_startMonth_57 rfl (lv_at hl 1 rfl) ?_
          refine x_get (ref := RX2) (C := RX2) (T := TX2) (N := 12) (ci := 2) (v := .ref (g + 2)) hx hb hts iX2 hown hK.1 hP (by omega) (by omega) (gw_0) rfl 1 (by decide) (hts (.fieldLink RX2 19 "PoreField$Ground" "wells" "[LPoreField$Well;") (by decide +kernel)) (fun _ h9 => h9) rfl dX2_startMonth_58 ?_
          refine lv_iload_n hx hb dX2_startMonth_61 rfl (lv_at hl 0 rfl) ?_
          refine x_aald (b := (g + (37 + 2 * w))) hx hb hK.1 hP (by omega) (by omega) 2 (gw_2) rfl (cl_of_nI (i := w) rfl (by omega)) rfl (vp_in_of_nI (i := w) rfl (by omega) (by omega)) dX2_startMonth_62 ?_
          refine x_get (ref := RX4) (C := RX4) (T := TX4) (N := 5) (ci := 4) (v := .int ((m_forget w (fo m_startS w (m_start1 M))) (37 + 2 * w) 0)) hx hb hts iX4 hown hK.1 hP (by omega) (by omega) (gw_well (by omega)) rfl 0 (by decide) (hts (.fieldLink RX2 72 "PoreField$Well" "kind" "I") (by decide +kernel)) (fun _ h9 => h9) rfl dX2_startMonth_63 ?_
          refine lv_iconst (v := 2) hx hb dX2_startMonth_66 (by decide) ?_
          refine lv_icmp_ne (tgt := 90) hx hb dX2_startMonth_67 (by decide) (fun c_67 => ?_) (fun c_67 => ?_)
          · refine lv_iinc (v := (nI (w + 1))) (lv' := [(1, .int (nI (w + 1))), (0, .ref g)]) hx hb dX2_startMonth_90 hl (k := 0) rfl (nI_1 _) (by decide) rfl (fun ls hl => ?_)
            refine lv_goto (tgt := 40) hx hb dX2_startMonth_93 (by decide) ?_
            exact ih40 (w + 1) _ _ _ (by omega) (lv_sub hl [0, 1] rfl) ((by rw [show fo m_startS (w + 1) (m_start1 M) = m_forget w (fo m_startS w (m_start1 M)) from (by simp only [fo, m_startS, if_neg c_67])]; exact hP)) hS
          · refine lv_aload_n hx hb dX2_startMonth_70 rfl (lv_at hl 1 rfl) ?_
            refine lv_dup hx hb dX2_startMonth_71 rfl ?_
            refine x_get (ref := RX2) (C := RX2) (T := TX2) (N := 12) (ci := 2) (v := .int ((m_forget w (fo m_startS w (m_start1 M))) 0 8)) hx hb hts iX2 hown hK.1 hP (by omega) (by omega) (gw_0) rfl 8 (by decide) (hts (.fieldLink RX2 97 "PoreField$Ground" "gasOutlets" "I") (by decide +kernel)) (fun _ h9 => h9) rfl dX2_startMonth_72 ?_
            refine lv_iconst (v := 2) hx hb dX2_startMonth_75 (by decide) ?_
            refine lv_aload_n hx hb dX2_startMonth_76 rfl (lv_at hl 1 rfl) ?_
            refine x_get (ref := RX2) (C := RX2) (T := TX2) (N := 12) (ci := 2) (v := .ref (g + 2)) hx hb hts iX2 hown hK.1 hP (by omega) (by omega) (gw_0) rfl 1 (by decide) (hts (.fieldLink RX2 19 "PoreField$Ground" "wells" "[LPoreField$Well;") (by decide +kernel)) (fun _ h9 => h9) rfl dX2_startMonth_77 ?_
            refine lv_iload_n hx hb dX2_startMonth_80 rfl (lv_at hl 0 rfl) ?_
            refine x_aald (b := (g + (37 + 2 * w))) hx hb hK.1 hP (by omega) (by omega) 2 (gw_2) rfl (cl_of_nI (i := w) rfl (by omega)) rfl (vp_in_of_nI (i := w) rfl (by omega) (by omega)) dX2_startMonth_81 ?_
            refine x_get (ref := RX4) (C := RX4) (T := TX4) (N := 5) (ci := 4) (v := .int ((m_forget w (fo m_startS w (m_start1 M))) (37 + 2 * w) 2)) hx hb hts iX4 hown hK.1 hP (by omega) (by omega) (gw_well (by omega)) rfl 2 (by decide) (hts (.fieldLink RX2 103 "PoreField$Well" "choke" "I") (by decide +kernel)) (fun _ h9 => h9) rfl dX2_startMonth_82 ?_
            refine lv_imul hx hb dX2_startMonth_85 ?_
            refine lv_iadd hx hb dX2_startMonth_86 ?_
            refine x_put (ty := .int) (ref := RX2) (C := RX2) (T := TX2) (N := 12) (ci := 2) (v := .int (((m_forget w (fo m_startS w (m_start1 M))) 0 8) + ((2 : Int32) * ((m_forget w (fo m_startS w (m_start1 M))) (37 + 2 * w) 2)))) hx hb hts iX2 tyX2 tyX2_ok nmX2 hown hK.1 hP hS (by omega) (by omega) (gw_0) rfl 8 (by decide) (hts (.fieldLink RX2 97 "PoreField$Ground" "gasOutlets" "I") (by decide +kernel)) (fun _ h9 => h9) rfl (by decide +kernel) rfl rfl (Nat.le_of_ble_eq_true rfl) dX2_startMonth_87 (fun H locs hP hS => ?_)
            have hP := gp0 (j := 8) (v := (((m_forget w (fo m_startS w (m_start1 M))) 0 8) + ((2 : Int32) * ((m_forget w (fo m_startS w (m_start1 M))) (37 + 2 * w) 2)))) hP (rfl)
            have hG : GI nd (u2 (m_forget w (fo m_startS w (m_start1 M))) (0) 8 (((m_forget w (fo m_startS w (m_start1 M))) 0 8) + ((2 : Int32) * ((m_forget w (fo m_startS w (m_start1 M))) (37 + 2 * w) 2)))) := hG.cg (Cg.rf.u2 (by omega))
            refine lv_iinc (v := (nI (w + 1))) (lv' := [(1, .int (nI (w + 1))), (0, .ref g)]) hx hb dX2_startMonth_90 hl (k := 0) rfl (nI_1 _) (by decide) rfl (fun ls hl => ?_)
            refine lv_goto (tgt := 40) hx hb dX2_startMonth_93 (by decide) ?_
            exact ih40 (w + 1) _ _ _ (by omega) (lv_sub hl [0, 1] rfl) ((by rw [show fo m_startS (w + 1) (m_start1 M) = u2 (m_forget w (fo m_startS w (m_start1 M))) (0) 8 (((m_forget w (fo m_startS w (m_start1 M))) 0 8) + ((2 : Int32) * ((m_forget w (fo m_startS w (m_start1 M))) (37 + 2 * w) 2))) from (by simp only [fo, m_startS, if_pos c_67])]; exact hP)) hS
      exact hloop40 nd 0 _ _ _ (by omega) (lv_sub hl [0, 1] rfl) (hP) hS
    | succ f_r ih2 =>
      intro f H locs ls hk2 hl hP hS
      have hG : GI nd (fo (fun f M => u2 M 4 f 0) f M) := hG0.cg cg_start0
      refine lv_iload_n hx hb dX2_startMonth_2 rfl (lv_at hl 0 rfl) ?_
      refine lv_iconst (v := 3) hx hb dX2_startMonth_3 (by decide) ?_
      refine lv_icmp_ge (tgt := 20) hx hb dX2_startMonth_4 (by decide) (fun c => absurd ((br_le (show (3 : Int32) = nI 3 from rfl) (show (nI f) = nI f from rfl) (by omega) (by omega)).mp c) (by omega)) (fun _ => ?_)
      refine lv_aload_n hx hb dX2_startMonth_7 rfl (lv_at hl 1 rfl) ?_
      refine x_get (ref := RX2) (C := RX2) (T := TX2) (N := 12) (ci := 2) (v := .ref (g + 4)) hx hb hts iX2 hown hK.1 hP (by omega) (by omega) (gw_0) rfl 7 (by decide) (hts (.fieldLink RX2 34 "PoreField$Ground" "cameUp" "[I") (by decide +kernel)) (fun _ h9 => h9) rfl dX2_startMonth_8 ?_
      refine lv_iload_n hx hb dX2_startMonth_11 rfl (lv_at hl 0 rfl) ?_
      refine lv_iconst (v := 0) hx hb dX2_startMonth_12 (by decide) ?_
      refine x_iast (v := (0 : Int32)) hx hb hK.1 hP hS (by omega) (by omega) 0 (gw_row (gRow_4)) rfl (cl_of_nI (i := f) rfl (by omega)) (vp_in_of_nI (i := f) rfl (by omega) (by omega)) dX2_startMonth_13 (fun H locs hP hS => ?_)
      have hP := gpr (k := 4) (j := f) (v := (0 : Int32)) hP (gRow_4)
      have hG : GI nd (u2 (fo (fun f M => u2 M 4 f 0) f M) (4) f (0 : Int32)) := hG.cg (Cg.rf.u2 (by omega))
      refine lv_iinc (v := (nI (f + 1))) (lv' := [(1, .int (nI (f + 1))), (0, .ref g)]) hx hb dX2_startMonth_14 hl (k := 0) rfl (nI_1 _) (by decide) rfl (fun ls hl => ?_)
      refine lv_goto (tgt := 2) hx hb dX2_startMonth_17 (by decide) ?_
      exact ih2 (f + 1) _ _ _ (by omega) (lv_sub hl [0, 1] rfl) (hP) hS
  exact hloop2 3 0 _ _ _ (by omega) (lv_sub hl [0, 1] rfl) (hP) hS

set_option maxRecDepth 100000 in
set_option maxHeartbeats 4000000 in
/-- Ground.putGasBack -/
theorem c_X2_putGasBack (l : Launch) (D : va_G) (cy : Nat → ClassId) (lo n : Nat) (w0 : Nat → va_E) (g : Nat) (M : Mem) (hg1 : lo ≤ g) (hg2 : g + 49 ≤ lo + n) (nd : Nat) (hG : GI nd M)  : Met l yX2_putGasBack wsX2_putGasBack ({ frames := 1, cells := 0, slots := 0, locals := 24 }) (PcW D cy lo n (gw cy w0 g M) [.ref g]) (QvW D lo n (gw cy w0 g (m_gas nd M))) 0 0 (fun q : Nat => lo ≤ q) := by
  refine Met.ofW (cc := cX2_putGasBack) (maxL := 4) (ret := none) (by decide) rfl ?_
  intro p e s m args below meth c s₁ B hml hv
  obtain ⟨rfl, hP, hK, hS⟩ := x_entry hv
  have hx := B.exec
  have hb := B.bytes
  have hr := B.returns
  have hts := atoms_spec (ws := wsX2_putGasBack) B.pre
  have hown : s.vm.findClass RX2 = some m.cls := findClass_of_methodNamed B.named
  have hlocks := B.notSynchronized
  have iX2 : ∀ w ∈ u_ws RX2 TX2 12, w ∈ wsX2_putGasBack := by decide +kernel
  have iX4 : ∀ w ∈ u_ws RX4 TX4 5, w ∈ wsX2_putGasBack := by decide +kernel
  have hl := lv_entry ([.ref g]) (n := 4) (Nat.le_of_ble_eq_true rfl)
  rw [lg_entry_eq]
  generalize (lg_sl ([.ref g]) ++ List.replicate (4 - (lg_sl ([.ref g])).length) Slot.unset).toArray = ls at hl ⊢
  have hl : lv_has ls 4 [(0, .ref g)] := hl
  have hG0 := hG
  have hnd := hG.1
  refine lv_aload_n hx hb dX2_putGasBack_0 rfl (lv_at hl 0 rfl) ?_
  refine x_get (ref := RX2) (C := RX2) (T := TX2) (N := 12) (ci := 2) (v := .ref (g + 4)) hx hb hts iX2 hown hK.1 hP (by omega) (by omega) (gw_0) rfl 7 (by decide) (hts (.fieldLink RX2 34 "PoreField$Ground" "cameUp" "[I") (by decide +kernel)) (fun _ h9 => h9) rfl dX2_putGasBack_1 ?_
  refine lv_iconst (v := 2) hx hb dX2_putGasBack_4 (by decide) ?_
  refine x_iald hx hb hK.1 hP (by omega) (by omega) 0 (gw_row (gRow_4)) rfl (cl_of_nI (i := 2) rfl (by omega)) (vp_in_of_nI (i := 2) rfl (by omega) (by omega)) dX2_putGasBack_5 ?_
  refine lv_istore_n (lv' := [(1, .int (M (4) 2)), (0, .ref g)]) hx hb dX2_putGasBack_6 rfl hl (by decide) rfl (fun ls hl => ?_)
  refine lv_iconst (v := 0) hx hb dX2_putGasBack_7 (by decide) ?_
  refine lv_istore_n (lv' := [(2, .int (0 : Int32)), (1, .int (M (4) 2)), (0, .ref g)]) hx hb dX2_putGasBack_8 rfl hl (by decide) rfl (fun ls hl => ?_)
  have hloop9 : ∀ (w_r w : Nat) (H : Heap) (locs : List Loc) (ls : Array Slot), w + w_r = nd → lv_has ls 4 [(2, .int (nI w)), (1, .int ((fo m_gasS w (M 4 2, M)).1)), (0, .ref g)] → va_P D vwCl (rl lo n (gw cy w0 g ((fo m_gasS w (M 4 2, M)).2))) H → va_S (fun q : Nat => lo ≤ q) s.heap H locs → W p l e (headSpec wsX2_putGasBack ({ frames := 1, cells := 0, slots := 0, locals := 24 })).room s m (([.ref g] : List Value).toArray) below meth c H locs 0 0 (MQ below (QvW D lo n (gw cy w0 g (m_gas nd M))) (([.ref g] : List Value).toArray) s 0 0 (fun q : Nat => lo ≤ q)) (F0 m 9 ls []) := by
    intro w_r
    induction w_r with
    | zero =>
      intro w H locs ls hk9 hl hP hS
      have ew : w = nd := by omega
      rw [ew] at hP
      rw [ew] at hl
      have hG : GI nd (fo m_gasS nd (M 4 2, M)).2 := hG0.cg cg_gas1
      refine lv_iload_n hx hb dX2_putGasBack_9 rfl (lv_at hl 0 rfl) ?_
      refine lv_aload_n hx hb dX2_putGasBack_10 rfl (lv_at hl 2 rfl) ?_
      refine x_get (ref := RX2) (C := RX2) (T := TX2) (N := 12) (ci := 2) (v := .int (((fo m_gasS nd (M 4 2, M)).2) 0 2)) hx hb hts iX2 hown hK.1 hP (by omega) (by omega) (gw_0) rfl 2 (by decide) (hts (.fieldLink RX2 46 "PoreField$Ground" "drilled" "I") (by decide +kernel)) (fun _ h9 => h9) rfl dX2_putGasBack_11 ?_
      refine lv_icmp_ge (tgt := 78) hx hb dX2_putGasBack_14 (by decide) (fun _ => ?_) (fun c => absurd ((br_le (show (((fo m_gasS nd (M 4 2, M)).2) 0 2) = nI nd from hG.dr) (show (nI nd) = nI nd from rfl) (by omega) (by omega)).mpr (by omega)) c)
      refine lv_aload_n hx hb dX2_putGasBack_78 rfl (lv_at hl 2 rfl) ?_
      refine lv_iload_n hx hb dX2_putGasBack_79 rfl (lv_at hl 1 rfl) ?_
      refine x_put (ty := .int) (ref := RX2) (C := RX2) (T := TX2) (N := 12) (ci := 2) (v := .int ((fo m_gasS nd (M 4 2, M)).1)) hx hb hts iX2 tyX2 tyX2_ok nmX2 hown hK.1 hP hS (by omega) (by omega) (gw_0) rfl 9 (by decide) (hts (.fieldLink RX2 139 "PoreField$Ground" "flared" "I") (by decide +kernel)) (fun _ h9 => h9) rfl (by decide +kernel) rfl rfl (Nat.le_of_ble_eq_true rfl) dX2_putGasBack_80 (fun H locs hP hS => ?_)
      have hP := gp0 (j := 9) (v := ((fo m_gasS nd (M 4 2, M)).1)) hP (rfl)
      have hG : GI nd (u2 ((fo m_gasS nd (M 4 2, M)).2) (0) 9 ((fo m_gasS nd (M 4 2, M)).1)) := hG.cg (Cg.rf.u2 (by omega))
      exact W.vret hx hb hr (fun tE ht hW => ⟨⟨(), rfl, trivial, x_at ht (hP)⟩, hS.F ht⟩) hS.2.2 dX2_putGasBack_83
    | succ w_r ih9 =>
      intro w H locs ls hk9 hl hP hS
      have hG : GI nd (fo m_gasS w (M 4 2, M)).2 := hG0.cg cg_gas1
      refine lv_iload_n hx hb dX2_putGasBack_9 rfl (lv_at hl 0 rfl) ?_
      refine lv_aload_n hx hb dX2_putGasBack_10 rfl (lv_at hl 2 rfl) ?_
      refine x_get (ref := RX2) (C := RX2) (T := TX2) (N := 12) (ci := 2) (v := .int (((fo m_gasS w (M 4 2, M)).2) 0 2)) hx hb hts iX2 hown hK.1 hP (by omega) (by omega) (gw_0) rfl 2 (by decide) (hts (.fieldLink RX2 46 "PoreField$Ground" "drilled" "I") (by decide +kernel)) (fun _ h9 => h9) rfl dX2_putGasBack_11 ?_
      refine lv_icmp_ge (tgt := 78) hx hb dX2_putGasBack_14 (by decide) (fun c => absurd ((br_le (show (((fo m_gasS w (M 4 2, M)).2) 0 2) = nI nd from hG.dr) (show (nI w) = nI w from rfl) (by omega) (by omega)).mp c) (by omega)) (fun _ => ?_)
      refine lv_aload_n hx hb dX2_putGasBack_17 rfl (lv_at hl 2 rfl) ?_
      refine x_get (ref := RX2) (C := RX2) (T := TX2) (N := 12) (ci := 2) (v := .ref (g + 2)) hx hb hts iX2 hown hK.1 hP (by omega) (by omega) (gw_0) rfl 1 (by decide) (hts (.fieldLink RX2 19 "PoreField$Ground" "wells" "[LPoreField$Well;") (by decide +kernel)) (fun _ h9 => h9) rfl dX2_putGasBack_18 ?_
      refine lv_iload_n hx hb dX2_putGasBack_21 rfl (lv_at hl 0 rfl) ?_
      refine x_aald (b := (g + (37 + 2 * w))) hx hb hK.1 hP (by omega) (by omega) 2 (gw_2) rfl (cl_of_nI (i := w) rfl (by omega)) rfl (vp_in_of_nI (i := w) rfl (by omega) (by omega)) dX2_putGasBack_22 ?_
      refine x_get (ref := RX4) (C := RX4) (T := TX4) (N := 5) (ci := 4) (v := .int (((fo m_gasS w (M 4 2, M)).2) (37 + 2 * w) 0)) hx hb hts iX4 hown hK.1 hP (by omega) (by omega) (gw_well (by omega)) rfl 0 (by decide) (hts (.fieldLink RX2 72 "PoreField$Well" "kind" "I") (by decide +kernel)) (fun _ h9 => h9) rfl dX2_putGasBack_23 ?_
      refine lv_iconst (v := 2) hx hb dX2_putGasBack_26 (by decide) ?_
      refine lv_icmp_ne (tgt := 72) hx hb dX2_putGasBack_27 (by decide) (fun c_27 => ?_) (fun c_27 => ?_)
      · refine lv_iinc (v := (nI (w + 1))) (lv' := [(2, .int (nI (w + 1))), (1, .int ((fo m_gasS w (M 4 2, M)).1)), (0, .ref g)]) hx hb dX2_putGasBack_72 hl (k := 0) rfl (nI_1 _) (by decide) rfl (fun ls hl => ?_)
        refine lv_goto (tgt := 9) hx hb dX2_putGasBack_75 (by decide) ?_
        have hst1 : (fo m_gasS (w + 1) (M 4 2, M)).1 = ((fo m_gasS w (M 4 2, M)).1) := by simp only [fo, m_gasS, if_neg c_27]
        have hst2 : (fo m_gasS (w + 1) (M 4 2, M)).2 = (fo m_gasS w (M 4 2, M)).2 := by simp only [fo, m_gasS, if_neg c_27]
        have hl : lv_has ls 4 [(2, .int (nI (w + 1))), (1, .int ((fo m_gasS (w + 1) (M 4 2, M)).1)), (0, .ref g)] := by rw [hst1]; exact hl
        exact ih9 (w + 1) _ _ _ (by omega) (lv_sub hl [0, 1, 2] rfl) ((by rw [hst2]; exact hP)) hS
      · refine lv_iload_n hx hb dX2_putGasBack_30 rfl (lv_at hl 1 rfl) ?_
        refine lv_iconst (v := 2) hx hb dX2_putGasBack_31 (by decide) ?_
        refine lv_aload_n hx hb dX2_putGasBack_32 rfl (lv_at hl 2 rfl) ?_
        refine x_get (ref := RX2) (C := RX2) (T := TX2) (N := 12) (ci := 2) (v := .ref (g + 2)) hx hb hts iX2 hown hK.1 hP (by omega) (by omega) (gw_0) rfl 1 (by decide) (hts (.fieldLink RX2 19 "PoreField$Ground" "wells" "[LPoreField$Well;") (by decide +kernel)) (fun _ h9 => h9) rfl dX2_putGasBack_33 ?_
        refine lv_iload_n hx hb dX2_putGasBack_36 rfl (lv_at hl 0 rfl) ?_
        refine x_aald (b := (g + (37 + 2 * w))) hx hb hK.1 hP (by omega) (by omega) 2 (gw_2) rfl (cl_of_nI (i := w) rfl (by omega)) rfl (vp_in_of_nI (i := w) rfl (by omega) (by omega)) dX2_putGasBack_37 ?_
        refine x_get (ref := RX4) (C := RX4) (T := TX4) (N := 5) (ci := 4) (v := .int (((fo m_gasS w (M 4 2, M)).2) (37 + 2 * w) 2)) hx hb hts iX4 hown hK.1 hP (by omega) (by omega) (gw_well (by omega)) rfl 2 (by decide) (hts (.fieldLink RX2 103 "PoreField$Well" "choke" "I") (by decide +kernel)) (fun _ h9 => h9) rfl dX2_putGasBack_38 ?_
        refine lv_imul hx hb dX2_putGasBack_41 ?_
        refine va_mmin (own := RX2) hx hb (hml.trans hl.1.symm) hown (hts (.methodLink RX2 125 Lib.Math.min.name) (by decide +kernel)) (hts (.static Lib.Math.min.name) (by decide +kernel)) (hts (.initialized "java/lang/Math") (by decide +kernel)) (hts (.code Lib.Math.min.name Lib.Math.min.code 2 (some .int)) (by decide +kernel)) (Nat.le_of_ble_eq_true rfl) (Nat.le_of_ble_eq_true rfl) (Nat.zero_le _) (Nat.zero_le _) dX2_putGasBack_42 ?_
        refine lv_istore_n (lv' := [(3, .int (jmin ((fo m_gasS w (M 4 2, M)).1) ((2 : Int32) * (((fo m_gasS w (M 4 2, M)).2) (37 + 2 * w) 2)))), (2, .int (nI w)), (1, .int ((fo m_gasS w (M 4 2, M)).1)), (0, .ref g)]) hx hb dX2_putGasBack_45 rfl hl (by decide) rfl (fun ls hl => ?_)
        refine lv_aload_n hx hb dX2_putGasBack_46 rfl (lv_at hl 3 rfl) ?_
        refine lv_aload_n hx hb dX2_putGasBack_47 rfl (lv_at hl 3 rfl) ?_
        refine x_get (ref := RX2) (C := RX2) (T := TX2) (N := 12) (ci := 2) (v := .ref (g + 2)) hx hb hts iX2 hown hK.1 hP (by omega) (by omega) (gw_0) rfl 1 (by decide) (hts (.fieldLink RX2 19 "PoreField$Ground" "wells" "[LPoreField$Well;") (by decide +kernel)) (fun _ h9 => h9) rfl dX2_putGasBack_48 ?_
        refine lv_iload_n hx hb dX2_putGasBack_51 rfl (lv_at hl 1 rfl) ?_
        refine x_aald (b := (g + (37 + 2 * w))) hx hb hK.1 hP (by omega) (by omega) 2 (gw_2) rfl (cl_of_nI (i := w) rfl (by omega)) rfl (vp_in_of_nI (i := w) rfl (by omega) (by omega)) dX2_putGasBack_52 ?_
        refine lv_iconst (v := 2) hx hb dX2_putGasBack_53 (by decide) ?_
        refine lv_iload_n hx hb dX2_putGasBack_54 rfl (lv_at hl 0 rfl) ?_
        refine x_callv (va_runV (As := [.ref (g + (37 + 2 * w)), .int (2 : Int32), .int (jmin ((fo m_gasS w (M 4 2, M)).1) ((2 : Int32) * (((fo m_gasS w (M 4 2, M)).2) (37 + 2 * w) 2)))]) (rest := []) ⟨hx, hb, hml, hown, hts⟩ (c_X2_putIn l D cy lo n w0 g ((fo m_gasS w (M 4 2, M)).2) (by omega) (by omega) nd hG w (by omega) 2 (by omega) (jmin ((fo m_gasS w (M 4 2, M)).1) ((2 : Int32) * (((fo m_gasS w (M 4 2, M)).2) (37 + 2 * w) 2)))) (cwV 3 hts gX2_putGasBack_X2_putIn rfl rfl rfl (by decide +kernel) ⟨Nat.le_of_ble_eq_true rfl, Nat.le_of_ble_eq_true rfl⟩) (preV hP hK (x_recv (ci := 2) (q := (RX2, TX2, 12)) hK.1 hP (by omega) (by omega) rfl (gw_0))) rfl rfl hl.1 rfl (lv_room (Nat.le_of_ble_eq_true rfl)) dX2_putGasBack_55 ⟨Nat.le_of_ble_eq_true rfl, Nat.le_of_ble_eq_true rfl⟩) hS (fun H locs hP hS => ?_)
        have hG : GI nd (m_putIn ((fo m_gasS w (M 4 2, M)).2) w 2 (jmin ((fo m_gasS w (M 4 2, M)).1) ((2 : Int32) * (((fo m_gasS w (M 4 2, M)).2) (37 + 2 * w) 2)))) := hG.cg cg_putIn
        refine lv_iload_n hx hb dX2_putGasBack_58 rfl (lv_at hl 2 rfl) ?_
        refine lv_iload_n hx hb dX2_putGasBack_59 rfl (lv_at hl 0 rfl) ?_
        refine lv_isub hx hb dX2_putGasBack_60 ?_
        refine lv_istore_n (lv' := [(1, .int (((fo m_gasS w (M 4 2, M)).1) - (jmin ((fo m_gasS w (M 4 2, M)).1) ((2 : Int32) * (((fo m_gasS w (M 4 2, M)).2) (37 + 2 * w) 2))))), (3, .int (jmin ((fo m_gasS w (M 4 2, M)).1) ((2 : Int32) * (((fo m_gasS w (M 4 2, M)).2) (37 + 2 * w) 2)))), (2, .int (nI w)), (0, .ref g)]) hx hb dX2_putGasBack_61 rfl hl (by decide) rfl (fun ls hl => ?_)
        refine lv_aload_n hx hb dX2_putGasBack_62 rfl (lv_at hl 3 rfl) ?_
        refine lv_dup hx hb dX2_putGasBack_63 rfl ?_
        refine x_get (ref := RX2) (C := RX2) (T := TX2) (N := 12) (ci := 2) (v := .int ((m_putIn ((fo m_gasS w (M 4 2, M)).2) w 2 (jmin ((fo m_gasS w (M 4 2, M)).1) ((2 : Int32) * (((fo m_gasS w (M 4 2, M)).2) (37 + 2 * w) 2)))) 0 10)) hx hb hts iX2 hown hK.1 hP (by omega) (by omega) (gw_0) rfl 10 (by decide) (hts (.fieldLink RX2 91 "PoreField$Ground" "putBack" "I") (by decide +kernel)) (fun _ h9 => h9) rfl dX2_putGasBack_64 ?_
        refine lv_iload_n hx hb dX2_putGasBack_67 rfl (lv_at hl 1 rfl) ?_
        refine lv_iadd hx hb dX2_putGasBack_68 ?_
        refine x_put (ty := .int) (ref := RX2) (C := RX2) (T := TX2) (N := 12) (ci := 2) (v := .int (((m_putIn ((fo m_gasS w (M 4 2, M)).2) w 2 (jmin ((fo m_gasS w (M 4 2, M)).1) ((2 : Int32) * (((fo m_gasS w (M 4 2, M)).2) (37 + 2 * w) 2)))) 0 10) + (jmin ((fo m_gasS w (M 4 2, M)).1) ((2 : Int32) * (((fo m_gasS w (M 4 2, M)).2) (37 + 2 * w) 2))))) hx hb hts iX2 tyX2 tyX2_ok nmX2 hown hK.1 hP hS (by omega) (by omega) (gw_0) rfl 10 (by decide) (hts (.fieldLink RX2 91 "PoreField$Ground" "putBack" "I") (by decide +kernel)) (fun _ h9 => h9) rfl (by decide +kernel) rfl rfl (Nat.le_of_ble_eq_true rfl) dX2_putGasBack_69 (fun H locs hP hS => ?_)
        have hP := gp0 (j := 10) (v := (((m_putIn ((fo m_gasS w (M 4 2, M)).2) w 2 (jmin ((fo m_gasS w (M 4 2, M)).1) ((2 : Int32) * (((fo m_gasS w (M 4 2, M)).2) (37 + 2 * w) 2)))) 0 10) + (jmin ((fo m_gasS w (M 4 2, M)).1) ((2 : Int32) * (((fo m_gasS w (M 4 2, M)).2) (37 + 2 * w) 2))))) hP (rfl)
        have hG : GI nd (u2 (m_putIn ((fo m_gasS w (M 4 2, M)).2) w 2 (jmin ((fo m_gasS w (M 4 2, M)).1) ((2 : Int32) * (((fo m_gasS w (M 4 2, M)).2) (37 + 2 * w) 2)))) (0) 10 (((m_putIn ((fo m_gasS w (M 4 2, M)).2) w 2 (jmin ((fo m_gasS w (M 4 2, M)).1) ((2 : Int32) * (((fo m_gasS w (M 4 2, M)).2) (37 + 2 * w) 2)))) 0 10) + (jmin ((fo m_gasS w (M 4 2, M)).1) ((2 : Int32) * (((fo m_gasS w (M 4 2, M)).2) (37 + 2 * w) 2))))) := hG.cg (Cg.rf.u2 (by omega))
        refine lv_iinc (v := (nI (w + 1))) (lv' := [(2, .int (nI (w + 1))), (1, .int (((fo m_gasS w (M 4 2, M)).1) - (jmin ((fo m_gasS w (M 4 2, M)).1) ((2 : Int32) * (((fo m_gasS w (M 4 2, M)).2) (37 + 2 * w) 2))))), (3, .int (jmin ((fo m_gasS w (M 4 2, M)).1) ((2 : Int32) * (((fo m_gasS w (M 4 2, M)).2) (37 + 2 * w) 2)))), (0, .ref g)]) hx hb dX2_putGasBack_72 hl (k := 2) rfl (nI_1 _) (by decide) rfl (fun ls hl => ?_)
        refine lv_goto (tgt := 9) hx hb dX2_putGasBack_75 (by decide) ?_
        have hst1 : (fo m_gasS (w + 1) (M 4 2, M)).1 = (((fo m_gasS w (M 4 2, M)).1) - (jmin ((fo m_gasS w (M 4 2, M)).1) ((2 : Int32) * (((fo m_gasS w (M 4 2, M)).2) (37 + 2 * w) 2)))) := by simp only [fo, m_gasS, if_pos c_27]
        have hst2 : (fo m_gasS (w + 1) (M 4 2, M)).2 = u2 (m_putIn ((fo m_gasS w (M 4 2, M)).2) w 2 (jmin ((fo m_gasS w (M 4 2, M)).1) ((2 : Int32) * (((fo m_gasS w (M 4 2, M)).2) (37 + 2 * w) 2)))) (0) 10 (((m_putIn ((fo m_gasS w (M 4 2, M)).2) w 2 (jmin ((fo m_gasS w (M 4 2, M)).1) ((2 : Int32) * (((fo m_gasS w (M 4 2, M)).2) (37 + 2 * w) 2)))) 0 10) + (jmin ((fo m_gasS w (M 4 2, M)).1) ((2 : Int32) * (((fo m_gasS w (M 4 2, M)).2) (37 + 2 * w) 2)))) := by simp only [fo, m_gasS, if_pos c_27]
        have hl : lv_has ls 4 [(2, .int (nI (w + 1))), (1, .int ((fo m_gasS (w + 1) (M 4 2, M)).1)), (3, .int (jmin ((fo m_gasS w (M 4 2, M)).1) ((2 : Int32) * (((fo m_gasS w (M 4 2, M)).2) (37 + 2 * w) 2)))), (0, .ref g)] := by rw [hst1]; exact hl
        exact ih9 (w + 1) _ _ _ (by omega) (lv_sub hl [0, 1, 3] rfl) ((by rw [hst2]; exact hP)) hS
  exact hloop9 nd 0 _ _ _ (by omega) (lv_sub hl [0, 1, 2] rfl) (hP) hS

set_option maxRecDepth 100000 in
set_option maxHeartbeats 4000000 in
/-- Ground.putWaterIn -/
theorem c_X2_putWaterIn (l : Launch) (D : va_G) (cy : Nat → ClassId) (lo n : Nat) (w0 : Nat → va_E) (g : Nat) (M : Mem) (hg1 : lo ≤ g) (hg2 : g + 49 ≤ lo + n) (nd : Nat) (hG : GI nd M)  : Met l yX2_putWaterIn wsX2_putWaterIn ({ frames := 2, cells := 0, slots := 0, locals := 40 }) (PcW D cy lo n (gw cy w0 g M) [.ref g]) (QvW D lo n (gw cy w0 g (m_water nd M))) 0 0 (fun q : Nat => lo ≤ q) := by
  refine Met.ofW (cc := cX2_putWaterIn) (maxL := 3) (ret := none) (by decide) rfl ?_
  intro p e s m args below meth c s₁ B hml hv
  obtain ⟨rfl, hP, hK, hS⟩ := x_entry hv
  have hx := B.exec
  have hb := B.bytes
  have hr := B.returns
  have hts := atoms_spec (ws := wsX2_putWaterIn) B.pre
  have hown : s.vm.findClass RX2 = some m.cls := findClass_of_methodNamed B.named
  have hlocks := B.notSynchronized
  have iX2 : ∀ w ∈ u_ws RX2 TX2 12, w ∈ wsX2_putWaterIn := by decide +kernel
  have iX4 : ∀ w ∈ u_ws RX4 TX4 5, w ∈ wsX2_putWaterIn := by decide +kernel
  have hl := lv_entry ([.ref g]) (n := 3) (Nat.le_of_ble_eq_true rfl)
  rw [lg_entry_eq]
  generalize (lg_sl ([.ref g]) ++ List.replicate (3 - (lg_sl ([.ref g])).length) Slot.unset).toArray = ls at hl ⊢
  have hl : lv_has ls 3 [(0, .ref g)] := hl
  have hG0 := hG
  have hnd := hG.1
  refine lv_iconst (v := 0) hx hb dX2_putWaterIn_0 (by decide) ?_
  refine lv_istore_n (lv' := [(1, .int (0 : Int32)), (0, .ref g)]) hx hb dX2_putWaterIn_1 rfl hl (by decide) rfl (fun ls hl => ?_)
  have hloop2 : ∀ (w_r w : Nat) (H : Heap) (locs : List Loc) (ls : Array Slot), w + w_r = nd → lv_has ls 3 [(1, .int (nI w)), (0, .ref g)] → va_P D vwCl (rl lo n (gw cy w0 g (fo m_waterS w M))) H → va_S (fun q : Nat => lo ≤ q) s.heap H locs → W p l e (headSpec wsX2_putWaterIn ({ frames := 2, cells := 0, slots := 0, locals := 40 })).room s m (([.ref g] : List Value).toArray) below meth c H locs 0 0 (MQ below (QvW D lo n (gw cy w0 g (m_water nd M))) (([.ref g] : List Value).toArray) s 0 0 (fun q : Nat => lo ≤ q)) (F0 m 2 ls []) := by
    intro w_r
    induction w_r with
    | zero =>
      intro w H locs ls hk2 hl hP hS
      have ew : w = nd := by omega
      rw [ew] at hP
      rw [ew] at hl
      have hG : GI nd (fo m_waterS nd M) := hG0.cg cg_water1
      refine lv_iload_n hx hb dX2_putWaterIn_2 rfl (lv_at hl 0 rfl) ?_
      refine lv_aload_n hx hb dX2_putWaterIn_3 rfl (lv_at hl 1 rfl) ?_
      refine x_get (ref := RX2) (C := RX2) (T := TX2) (N := 12) (ci := 2) (v := .int ((fo m_waterS nd M) 0 2)) hx hb hts iX2 hown hK.1 hP (by omega) (by omega) (gw_0) rfl 2 (by decide) (hts (.fieldLink RX2 46 "PoreField$Ground" "drilled" "I") (by decide +kernel)) (fun _ h9 => h9) rfl dX2_putWaterIn_4 ?_
      refine lv_icmp_ge (tgt := 86) hx hb dX2_putWaterIn_7 (by decide) (fun _ => ?_) (fun c => absurd ((br_le (show ((fo m_waterS nd M) 0 2) = nI nd from hG.dr) (show (nI nd) = nI nd from rfl) (by omega) (by omega)).mpr (by omega)) c)
      exact W.vret hx hb hr (fun tE ht hW => ⟨⟨(), rfl, trivial, x_at ht (hP)⟩, hS.F ht⟩) hS.2.2 dX2_putWaterIn_86
    | succ w_r ih2 =>
      intro w H locs ls hk2 hl hP hS
      have hG : GI nd (fo m_waterS w M) := hG0.cg cg_water1
      refine lv_iload_n hx hb dX2_putWaterIn_2 rfl (lv_at hl 0 rfl) ?_
      refine lv_aload_n hx hb dX2_putWaterIn_3 rfl (lv_at hl 1 rfl) ?_
      refine x_get (ref := RX2) (C := RX2) (T := TX2) (N := 12) (ci := 2) (v := .int ((fo m_waterS w M) 0 2)) hx hb hts iX2 hown hK.1 hP (by omega) (by omega) (gw_0) rfl 2 (by decide) (hts (.fieldLink RX2 46 "PoreField$Ground" "drilled" "I") (by decide +kernel)) (fun _ h9 => h9) rfl dX2_putWaterIn_4 ?_
      refine lv_icmp_ge (tgt := 86) hx hb dX2_putWaterIn_7 (by decide) (fun c => absurd ((br_le (show ((fo m_waterS w M) 0 2) = nI nd from hG.dr) (show (nI w) = nI w from rfl) (by omega) (by omega)).mp c) (by omega)) (fun _ => ?_)
      refine lv_aload_n hx hb dX2_putWaterIn_10 rfl (lv_at hl 1 rfl) ?_
      refine x_get (ref := RX2) (C := RX2) (T := TX2) (N := 12) (ci := 2) (v := .ref (g + 2)) hx hb hts iX2 hown hK.1 hP (by omega) (by omega) (gw_0) rfl 1 (by decide) (hts (.fieldLink RX2 19 "PoreField$Ground" "wells" "[LPoreField$Well;") (by decide +kernel)) (fun _ h9 => h9) rfl dX2_putWaterIn_11 ?_
      refine lv_iload_n hx hb dX2_putWaterIn_14 rfl (lv_at hl 0 rfl) ?_
      refine x_aald (b := (g + (37 + 2 * w))) hx hb hK.1 hP (by omega) (by omega) 2 (gw_2) rfl (cl_of_nI (i := w) rfl (by omega)) rfl (vp_in_of_nI (i := w) rfl (by omega) (by omega)) dX2_putWaterIn_15 ?_
      refine x_get (ref := RX4) (C := RX4) (T := TX4) (N := 5) (ci := 4) (v := .int ((fo m_waterS w M) (37 + 2 * w) 0)) hx hb hts iX4 hown hK.1 hP (by omega) (by omega) (gw_well (by omega)) rfl 0 (by decide) (hts (.fieldLink RX2 72 "PoreField$Well" "kind" "I") (by decide +kernel)) (fun _ h9 => h9) rfl dX2_putWaterIn_16 ?_
      refine lv_iconst (v := 1) hx hb dX2_putWaterIn_19 (by decide) ?_
      refine lv_icmp_ne (tgt := 80) hx hb dX2_putWaterIn_20 (by decide) (fun c_20 => ?_) (fun c_20 => ?_)
      · refine lv_iinc (v := (nI (w + 1))) (lv' := [(1, .int (nI (w + 1))), (0, .ref g)]) hx hb dX2_putWaterIn_80 hl (k := 0) rfl (nI_1 _) (by decide) rfl (fun ls hl => ?_)
        refine lv_goto (tgt := 2) hx hb dX2_putWaterIn_83 (by decide) ?_
        exact ih2 (w + 1) _ _ _ (by omega) (lv_sub hl [0, 1] rfl) ((by rw [show fo m_waterS (w + 1) M = fo m_waterS w M from (by simp only [fo, m_waterS, if_neg c_20])]; exact hP)) hS
      · refine lv_aload_n hx hb dX2_putWaterIn_23 rfl (lv_at hl 1 rfl) ?_
        refine x_get (ref := RX2) (C := RX2) (T := TX2) (N := 12) (ci := 2) (v := .ref (g + 1)) hx hb hts iX2 hown hK.1 hP (by omega) (by omega) (gw_0) rfl 0 (by decide) (hts (.fieldLink RX2 11 "PoreField$Ground" "cells" "[LPoreField$Cell;") (by decide +kernel)) (fun _ h9 => h9) rfl dX2_putWaterIn_24 ?_
        refine lv_aload_n hx hb dX2_putWaterIn_27 rfl (lv_at hl 1 rfl) ?_
        refine x_get (ref := RX2) (C := RX2) (T := TX2) (N := 12) (ci := 2) (v := .ref (g + 2)) hx hb hts iX2 hown hK.1 hP (by omega) (by omega) (gw_0) rfl 1 (by decide) (hts (.fieldLink RX2 19 "PoreField$Ground" "wells" "[LPoreField$Well;") (by decide +kernel)) (fun _ h9 => h9) rfl dX2_putWaterIn_28 ?_
        refine lv_iload_n hx hb dX2_putWaterIn_31 rfl (lv_at hl 0 rfl) ?_
        refine x_aald (b := (g + (37 + 2 * w))) hx hb hK.1 hP (by omega) (by omega) 2 (gw_2) rfl (cl_of_nI (i := w) rfl (by omega)) rfl (vp_in_of_nI (i := w) rfl (by omega) (by omega)) dX2_putWaterIn_32 ?_
        have hcx := hG.cx (w := w) (by omega)
        refine x_get (ref := RX4) (C := RX4) (T := TX4) (N := 5) (ci := 4) (v := .int ((fo m_waterS w M) (37 + 2 * w) 1)) hx hb hts iX4 hown hK.1 hP (by omega) (by omega) (gw_well (by omega)) rfl 1 (by decide) (hts (.fieldLink RX2 106 "PoreField$Well" "cell" "I") (by decide +kernel)) (fun _ h9 => h9) rfl dX2_putWaterIn_33 ?_
        refine x_aald (b := (g + (5 + 2 * (cix (fo m_waterS w M) w)))) hx hb hK.1 hP (by omega) (by omega) 1 (gw_1) rfl (cl_of_nI (i := (cix (fo m_waterS w M) w)) (hG.ce (by omega)) (by omega)) rfl (vp_in_of_nI (i := (cix (fo m_waterS w M) w)) (hG.ce (by omega)) (by omega) (by omega)) dX2_putWaterIn_36 ?_
        refine x_calli (va_runV (As := []) (rest := []) ⟨hx, hb, hml, hown, hts⟩ (c_X1_pressure l D cy lo n w0 g (fo m_waterS w M) (by omega) (by omega) (cix (fo m_waterS w M) w) (by omega) (hG.rm (by omega))) (cwV 0 hts gX2_putWaterIn_X1_pressure rfl rfl rfl (by decide +kernel) ⟨Nat.le_of_ble_eq_true rfl, Nat.le_of_ble_eq_true rfl⟩) (preV hP hK (x_recv (ci := 1) (q := (RX1, TX1, 4)) hK.1 hP (by omega) (by omega) rfl (gw_cell (by omega)))) rfl rfl hl.1 rfl (lv_room (Nat.le_of_ble_eq_true rfl)) dX2_putWaterIn_37 ⟨Nat.le_of_ble_eq_true rfl, Nat.le_of_ble_eq_true rfl⟩) hS (fun H locs hP hS => ?_)
        refine lv_sipush (v := 200) hx hb dX2_putWaterIn_40 (by decide) ?_
        refine lv_icmp_ge (tgt := 80) hx hb dX2_putWaterIn_43 (by decide) (fun c_43 => ?_) (fun c_43 => ?_)
        · refine lv_iinc (v := (nI (w + 1))) (lv' := [(1, .int (nI (w + 1))), (0, .ref g)]) hx hb dX2_putWaterIn_80 hl (k := 0) rfl (nI_1 _) (by decide) rfl (fun ls hl => ?_)
          refine lv_goto (tgt := 2) hx hb dX2_putWaterIn_83 (by decide) ?_
          exact ih2 (w + 1) _ _ _ (by omega) (lv_sub hl [0, 1] rfl) ((by rw [show fo m_waterS (w + 1) M = fo m_waterS w M from (by simp only [fo, m_waterS, if_pos c_20, if_pos c_43])]; exact hP)) hS
        · refine lv_iconst (v := 2) hx hb dX2_putWaterIn_46 (by decide) ?_
          refine lv_aload_n hx hb dX2_putWaterIn_47 rfl (lv_at hl 1 rfl) ?_
          refine x_get (ref := RX2) (C := RX2) (T := TX2) (N := 12) (ci := 2) (v := .ref (g + 2)) hx hb hts iX2 hown hK.1 hP (by omega) (by omega) (gw_0) rfl 1 (by decide) (hts (.fieldLink RX2 19 "PoreField$Ground" "wells" "[LPoreField$Well;") (by decide +kernel)) (fun _ h9 => h9) rfl dX2_putWaterIn_48 ?_
          refine lv_iload_n hx hb dX2_putWaterIn_51 rfl (lv_at hl 0 rfl) ?_
          refine x_aald (b := (g + (37 + 2 * w))) hx hb hK.1 hP (by omega) (by omega) 2 (gw_2) rfl (cl_of_nI (i := w) rfl (by omega)) rfl (vp_in_of_nI (i := w) rfl (by omega) (by omega)) dX2_putWaterIn_52 ?_
          refine x_get (ref := RX4) (C := RX4) (T := TX4) (N := 5) (ci := 4) (v := .int ((fo m_waterS w M) (37 + 2 * w) 2)) hx hb hts iX4 hown hK.1 hP (by omega) (by omega) (gw_well (by omega)) rfl 2 (by decide) (hts (.fieldLink RX2 103 "PoreField$Well" "choke" "I") (by decide +kernel)) (fun _ h9 => h9) rfl dX2_putWaterIn_53 ?_
          refine lv_imul hx hb dX2_putWaterIn_56 ?_
          refine lv_istore_n (lv' := [(2, .int ((2 : Int32) * ((fo m_waterS w M) (37 + 2 * w) 2))), (1, .int (nI w)), (0, .ref g)]) hx hb dX2_putWaterIn_57 rfl hl (by decide) rfl (fun ls hl => ?_)
          refine lv_aload_n hx hb dX2_putWaterIn_58 rfl (lv_at hl 2 rfl) ?_
          refine lv_aload_n hx hb dX2_putWaterIn_59 rfl (lv_at hl 2 rfl) ?_
          refine x_get (ref := RX2) (C := RX2) (T := TX2) (N := 12) (ci := 2) (v := .ref (g + 2)) hx hb hts iX2 hown hK.1 hP (by omega) (by omega) (gw_0) rfl 1 (by decide) (hts (.fieldLink RX2 19 "PoreField$Ground" "wells" "[LPoreField$Well;") (by decide +kernel)) (fun _ h9 => h9) rfl dX2_putWaterIn_60 ?_
          refine lv_iload_n hx hb dX2_putWaterIn_63 rfl (lv_at hl 1 rfl) ?_
          refine x_aald (b := (g + (37 + 2 * w))) hx hb hK.1 hP (by omega) (by omega) 2 (gw_2) rfl (cl_of_nI (i := w) rfl (by omega)) rfl (vp_in_of_nI (i := w) rfl (by omega) (by omega)) dX2_putWaterIn_64 ?_
          refine lv_iconst (v := 1) hx hb dX2_putWaterIn_65 (by decide) ?_
          refine lv_iload_n hx hb dX2_putWaterIn_66 rfl (lv_at hl 0 rfl) ?_
          refine x_callv (va_runV (As := [.ref (g + (37 + 2 * w)), .int (1 : Int32), .int ((2 : Int32) * ((fo m_waterS w M) (37 + 2 * w) 2))]) (rest := []) ⟨hx, hb, hml, hown, hts⟩ (c_X2_putIn l D cy lo n w0 g (fo m_waterS w M) (by omega) (by omega) nd hG w (by omega) 1 (by omega) ((2 : Int32) * ((fo m_waterS w M) (37 + 2 * w) 2))) (cwV 3 hts gX2_putWaterIn_X2_putIn rfl rfl rfl (by decide +kernel) ⟨Nat.le_of_ble_eq_true rfl, Nat.le_of_ble_eq_true rfl⟩) (preV hP hK (x_recv (ci := 2) (q := (RX2, TX2, 12)) hK.1 hP (by omega) (by omega) rfl (gw_0))) rfl rfl hl.1 rfl (lv_room (Nat.le_of_ble_eq_true rfl)) dX2_putWaterIn_67 ⟨Nat.le_of_ble_eq_true rfl, Nat.le_of_ble_eq_true rfl⟩) hS (fun H locs hP hS => ?_)
          have hG : GI nd (m_putIn (fo m_waterS w M) w 1 ((2 : Int32) * ((fo m_waterS w M) (37 + 2 * w) 2))) := hG.cg cg_putIn
          refine lv_aload_n hx hb dX2_putWaterIn_70 rfl (lv_at hl 2 rfl) ?_
          refine lv_dup hx hb dX2_putWaterIn_71 rfl ?_
          refine x_get (ref := RX2) (C := RX2) (T := TX2) (N := 12) (ci := 2) (v := .int ((m_putIn (fo m_waterS w M) w 1 ((2 : Int32) * ((fo m_waterS w M) (37 + 2 * w) 2))) 0 11)) hx hb hts iX2 hown hK.1 hP (by omega) (by omega) (gw_0) rfl 11 (by decide) (hts (.fieldLink RX2 94 "PoreField$Ground" "waterIn" "I") (by decide +kernel)) (fun _ h9 => h9) rfl dX2_putWaterIn_72 ?_
          refine lv_iload_n hx hb dX2_putWaterIn_75 rfl (lv_at hl 0 rfl) ?_
          refine lv_iadd hx hb dX2_putWaterIn_76 ?_
          refine x_put (ty := .int) (ref := RX2) (C := RX2) (T := TX2) (N := 12) (ci := 2) (v := .int (((m_putIn (fo m_waterS w M) w 1 ((2 : Int32) * ((fo m_waterS w M) (37 + 2 * w) 2))) 0 11) + ((2 : Int32) * ((fo m_waterS w M) (37 + 2 * w) 2)))) hx hb hts iX2 tyX2 tyX2_ok nmX2 hown hK.1 hP hS (by omega) (by omega) (gw_0) rfl 11 (by decide) (hts (.fieldLink RX2 94 "PoreField$Ground" "waterIn" "I") (by decide +kernel)) (fun _ h9 => h9) rfl (by decide +kernel) rfl rfl (Nat.le_of_ble_eq_true rfl) dX2_putWaterIn_77 (fun H locs hP hS => ?_)
          have hP := gp0 (j := 11) (v := (((m_putIn (fo m_waterS w M) w 1 ((2 : Int32) * ((fo m_waterS w M) (37 + 2 * w) 2))) 0 11) + ((2 : Int32) * ((fo m_waterS w M) (37 + 2 * w) 2)))) hP (rfl)
          have hG : GI nd (u2 (m_putIn (fo m_waterS w M) w 1 ((2 : Int32) * ((fo m_waterS w M) (37 + 2 * w) 2))) (0) 11 (((m_putIn (fo m_waterS w M) w 1 ((2 : Int32) * ((fo m_waterS w M) (37 + 2 * w) 2))) 0 11) + ((2 : Int32) * ((fo m_waterS w M) (37 + 2 * w) 2)))) := hG.cg (Cg.rf.u2 (by omega))
          refine lv_iinc (v := (nI (w + 1))) (lv' := [(1, .int (nI (w + 1))), (2, .int ((2 : Int32) * ((fo m_waterS w M) (37 + 2 * w) 2))), (0, .ref g)]) hx hb dX2_putWaterIn_80 hl (k := 1) rfl (nI_1 _) (by decide) rfl (fun ls hl => ?_)
          refine lv_goto (tgt := 2) hx hb dX2_putWaterIn_83 (by decide) ?_
          exact ih2 (w + 1) _ _ _ (by omega) (lv_sub hl [0, 2] rfl) ((by rw [show fo m_waterS (w + 1) M = u2 (m_putIn (fo m_waterS w M) w 1 ((2 : Int32) * ((fo m_waterS w M) (37 + 2 * w) 2))) (0) 11 (((m_putIn (fo m_waterS w M) w 1 ((2 : Int32) * ((fo m_waterS w M) (37 + 2 * w) 2))) 0 11) + ((2 : Int32) * ((fo m_waterS w M) (37 + 2 * w) 2))) from (by simp only [fo, m_waterS, if_pos c_20, if_neg c_43])]; exact hP)) hS
  exact hloop2 nd 0 _ _ _ (by omega) (lv_sub hl [0, 1] rfl) (hP) hS
end
section
set_option maxRecDepth 100000 in
set_option maxHeartbeats 4000000 in
/-- PoreField.neighbour -/
theorem c_X6_neighbour (l : Launch) (D : va_G) (cy : Nat → ClassId) (lo n : Nat) (w0 : Nat → va_E) (ce : Nat) (hc : ce < 16) (b : Int32) : Met l yX6_neighbour wsX6_neighbour ({ frames := 0, cells := 0, slots := 0, locals := 0 }) (PcW D cy lo n w0 [.int (nI ce), .int b]) (QiW D lo n w0 (m_nb ce b)) 0 0 (fun q : Nat => lo ≤ q) := by
  refine Met.ofW (cc := cX6_neighbour) (maxL := 2) (ret := (some .int)) (by decide) rfl ?_
  intro p e s m args below meth c s₁ B hml hv
  obtain ⟨rfl, hP, hK, hS⟩ := x_entry hv
  have hx := B.exec
  have hb := B.bytes
  have hr := B.returns
  have hts := atoms_spec (ws := wsX6_neighbour) B.pre
  have hown : s.vm.findClass RX6 = some m.cls := findClass_of_methodNamed B.named
  have hlocks := B.notSynchronized
  have hl := lv_entry ([.int (nI ce), .int b]) (n := 2) (Nat.le_of_ble_eq_true rfl)
  rw [lg_entry_eq]
  generalize (lg_sl ([.int (nI ce), .int b]) ++ List.replicate (2 - (lg_sl ([.int (nI ce), .int b])).length) Slot.unset).toArray = ls at hl ⊢
  have hl : lv_has ls 2 [(0, .int (nI ce)), (1, .int b)] := hl
  refine lv_iload_n hx hb dX6_neighbour_0 rfl (lv_at hl 1 rfl) ?_
  refine lv_if_eq (tgt := 19) hx hb dX6_neighbour_1 (by decide) (fun c_1 => ?_) (fun c_1 => ?_)
  · refine lv_iload_n hx hb dX6_neighbour_19 rfl (lv_at hl 0 rfl) ?_
    refine lv_iconst (v := 4) hx hb dX6_neighbour_20 (by decide) ?_
    refine lv_iadd hx hb dX6_neighbour_21 ?_
    refine lv_bipush (v := 16) hx hb dX6_neighbour_22 (by decide) ?_
    refine lv_icmp_lt (tgt := 31) hx hb dX6_neighbour_24 (by decide) (fun c_24 => ?_) (fun c_24 => ?_)
    · refine lv_iload_n hx hb dX6_neighbour_31 rfl (lv_at hl 0 rfl) ?_
      refine lv_iconst (v := 4) hx hb dX6_neighbour_32 (by decide) ?_
      refine lv_iadd hx hb dX6_neighbour_33 ?_
      exact W.iret (v := ((nI ce) + (4 : Int32))) hx hb hr (fun tE ht hW => ⟨⟨((nI ce) + (4 : Int32)), (), rfl, (by simp only [m_nb, if_pos c_1, if_pos c_24]), x_at ht (hP)⟩, hS.F ht⟩) hS.2.2 dX6_neighbour_34
    · refine lv_iconst (v := -1) hx hb dX6_neighbour_27 (by decide) ?_
      refine lv_goto (tgt := 34) hx hb dX6_neighbour_28 (by decide) ?_
      exact W.iret (v := (-1 : Int32)) hx hb hr (fun tE ht hW => ⟨⟨(-1 : Int32), (), rfl, (by simp only [m_nb, if_pos c_1, if_neg c_24]), x_at ht (hP)⟩, hS.F ht⟩) hS.2.2 dX6_neighbour_34
  · refine lv_iload_n hx hb dX6_neighbour_4 rfl (lv_at hl 0 rfl) ?_
    refine lv_iconst (v := 4) hx hb dX6_neighbour_5 (by decide) ?_
    refine lv_irem hx hb dX6_neighbour_6 (by decide) ?_
    refine lv_iconst (v := 3) hx hb dX6_neighbour_7 (by decide) ?_
    refine lv_icmp_ne (tgt := 15) hx hb dX6_neighbour_8 (by decide) (fun c_8 => ?_) (fun c_8 => ?_)
    · refine lv_iload_n hx hb dX6_neighbour_15 rfl (lv_at hl 0 rfl) ?_
      refine lv_iconst (v := 1) hx hb dX6_neighbour_16 (by decide) ?_
      refine lv_iadd hx hb dX6_neighbour_17 ?_
      exact W.iret (v := ((nI ce) + (1 : Int32))) hx hb hr (fun tE ht hW => ⟨⟨((nI ce) + (1 : Int32)), (), rfl, (by simp only [m_nb, if_neg c_1, if_neg c_8]), x_at ht (hP)⟩, hS.F ht⟩) hS.2.2 dX6_neighbour_18
    · refine lv_iconst (v := -1) hx hb dX6_neighbour_11 (by decide) ?_
      refine lv_goto (tgt := 18) hx hb dX6_neighbour_12 (by decide) ?_
      exact W.iret (v := (-1 : Int32)) hx hb hr (fun tE ht hW => ⟨⟨(-1 : Int32), (), rfl, (by simp only [m_nb, if_neg c_1, if_pos c_8]), x_at ht (hP)⟩, hS.F ht⟩) hS.2.2 dX6_neighbour_18

set_option maxRecDepth 100000 in
set_option maxHeartbeats 4000000 in
/-- Ground.evenOut -/
theorem c_X2_evenOut (l : Launch) (D : va_G) (cy : Nat → ClassId) (lo n : Nat) (w0 : Nat → va_E) (g : Nat) (M : Mem) (hg1 : lo ≤ g) (hg2 : g + 49 ≤ lo + n) (nd : Nat) (hG : GI nd M) (ce : Nat) (hc : ce < 16) (b : Int32) : Met l yX2_evenOut wsX2_evenOut ({ frames := 2, cells := 0, slots := 0, locals := 49 }) (PcW D cy lo n (gw cy w0 g M) [.ref g, .int (nI ce), .int b]) (QvW D lo n (gw cy w0 g (m_even b ce M))) 0 0 (fun q : Nat => lo ≤ q) := by
  refine Met.ofW (cc := cX2_evenOut) (maxL := 7) (ret := none) (by decide) rfl ?_
  intro p e s m args below meth c s₁ B hml hv
  obtain ⟨rfl, hP, hK, hS⟩ := x_entry hv
  have hx := B.exec
  have hb := B.bytes
  have hr := B.returns
  have hts := atoms_spec (ws := wsX2_evenOut) B.pre
  have hown : s.vm.findClass RX2 = some m.cls := findClass_of_methodNamed B.named
  have hlocks := B.notSynchronized
  have iX1 : ∀ w ∈ u_ws RX1 TX1 4, w ∈ wsX2_evenOut := by decide +kernel
  have iX2 : ∀ w ∈ u_ws RX2 TX2 12, w ∈ wsX2_evenOut := by decide +kernel
  have hl := lv_entry ([.ref g, .int (nI ce), .int b]) (n := 7) (Nat.le_of_ble_eq_true rfl)
  rw [lg_entry_eq]
  generalize (lg_sl ([.ref g, .int (nI ce), .int b]) ++ List.replicate (7 - (lg_sl ([.ref g, .int (nI ce), .int b])).length) Slot.unset).toArray = ls at hl ⊢
  have hl : lv_has ls 7 [(0, .ref g), (1, .int (nI ce)), (2, .int b)] := hl
  refine lv_iload_n hx hb dX2_evenOut_0 rfl (lv_at hl 1 rfl) ?_
  refine lv_iload_n hx hb dX2_evenOut_1 rfl (lv_at hl 2 rfl) ?_
  refine x_calli (va_runSN (As := [.int (nI ce), .int b]) (rest := []) ⟨hx, hb, hml, hown, hts⟩ (c_X6_neighbour l D cy lo n (gw cy w0 g M) ce (by omega) b) ⟨va_cnB 2 hts gX2_evenOut_X6_neighbour_n142 rfl rfl rfl hK.2 (hts (.initialized RX6) (by decide +kernel)) (by decide +kernel) ⟨Nat.le_of_ble_eq_true rfl, Nat.le_of_ble_eq_true rfl⟩, hts (.static yX6_neighbour) (by decide +kernel), trivial⟩ (preS hP hK) rfl rfl hl.1 rfl (lv_room (Nat.le_of_ble_eq_true rfl)) dX2_evenOut_2 ⟨Nat.le_of_ble_eq_true rfl, Nat.le_of_ble_eq_true rfl⟩) hS (fun H locs hP hS => ?_)
  refine lv_istore_n (lv' := [(3, .int (m_nb ce b)), (0, .ref g), (1, .int (nI ce)), (2, .int b)]) hx hb dX2_evenOut_5 rfl hl (by decide) rfl (fun ls hl => ?_)
  refine lv_iload_n hx hb dX2_evenOut_6 rfl (lv_at hl 0 rfl) ?_
  refine lv_iconst (v := -1) hx hb dX2_evenOut_7 (by decide) ?_
  refine lv_icmp_eq (tgt := 24) hx hb dX2_evenOut_8 (by decide) (fun c_8 => ?_) (fun c_8 => ?_)
  · exact W.vret hx hb hr (fun tE ht hW => ⟨⟨(), rfl, trivial, x_at ht ((by rw [show m_even b ce M = M from (by simp only [m_even, if_pos c_8])]; exact hP))⟩, hS.F ht⟩) hS.2.2 dX2_evenOut_24
  · have hnb := nb_ok hc c_8
    refine lv_aload_n hx hb dX2_evenOut_11 rfl (lv_at hl 1 rfl) ?_
    refine x_get (ref := RX2) (C := RX2) (T := TX2) (N := 12) (ci := 2) (v := .ref (g + 1)) hx hb hts iX2 hown hK.1 hP (by omega) (by omega) (gw_0) rfl 0 (by decide) (hts (.fieldLink RX2 11 "PoreField$Ground" "cells" "[LPoreField$Cell;") (by decide +kernel)) (fun _ h9 => h9) rfl dX2_evenOut_12 ?_
    refine lv_iload_n hx hb dX2_evenOut_15 rfl (lv_at hl 2 rfl) ?_
    refine x_aald (b := (g + (5 + 2 * ce))) hx hb hK.1 hP (by omega) (by omega) 1 (gw_1) rfl (cl_of_nI (i := ce) rfl (by omega)) rfl (vp_in_of_nI (i := ce) rfl (by omega) (by omega)) dX2_evenOut_16 ?_
    refine lv_iload_n hx hb dX2_evenOut_17 rfl (lv_at hl 3 rfl) ?_
    refine x_calli (va_runV (As := [.int b]) (rest := []) ⟨hx, hb, hml, hown, hts⟩ (c_X1_isShut l D cy lo n w0 g M (by omega) (by omega) ce (by omega) b (hG.sh (by omega))) (cwV 1 hts gX2_evenOut_X1_isShut rfl rfl rfl (by decide +kernel) ⟨Nat.le_of_ble_eq_true rfl, Nat.le_of_ble_eq_true rfl⟩) (preV hP hK (x_recv (ci := 1) (q := (RX1, TX1, 4)) hK.1 hP (by omega) (by omega) rfl (gw_cell (by omega)))) rfl rfl hl.1 rfl (lv_room (Nat.le_of_ble_eq_true rfl)) dX2_evenOut_18 ⟨Nat.le_of_ble_eq_true rfl, Nat.le_of_ble_eq_true rfl⟩) hS (fun H locs hP hS => ?_)
    refine lv_if_eq (tgt := 25) hx hb dX2_evenOut_21 (by decide) (fun c_21 => ?_) (fun c_21 => ?_)
    · refine lv_aload_n hx hb dX2_evenOut_25 rfl (lv_at hl 1 rfl) ?_
      refine x_get (ref := RX2) (C := RX2) (T := TX2) (N := 12) (ci := 2) (v := .ref (g + 1)) hx hb hts iX2 hown hK.1 hP (by omega) (by omega) (gw_0) rfl 0 (by decide) (hts (.fieldLink RX2 11 "PoreField$Ground" "cells" "[LPoreField$Cell;") (by decide +kernel)) (fun _ h9 => h9) rfl dX2_evenOut_26 ?_
      refine lv_iload_n hx hb dX2_evenOut_29 rfl (lv_at hl 2 rfl) ?_
      refine x_aald (b := (g + (5 + 2 * ce))) hx hb hK.1 hP (by omega) (by omega) 1 (gw_1) rfl (cl_of_nI (i := ce) rfl (by omega)) rfl (vp_in_of_nI (i := ce) rfl (by omega) (by omega)) dX2_evenOut_30 ?_
      refine lv_astore (lv' := [(4, .ref (g + (5 + 2 * ce))), (3, .int (m_nb ce b)), (0, .ref g), (1, .int (nI ce)), (2, .int b)]) hx hb dX2_evenOut_31 hl (by decide) rfl (fun ls hl => ?_)
      refine lv_aload_n hx hb dX2_evenOut_33 rfl (lv_at hl 2 rfl) ?_
      refine x_get (ref := RX2) (C := RX2) (T := TX2) (N := 12) (ci := 2) (v := .ref (g + 1)) hx hb hts iX2 hown hK.1 hP (by omega) (by omega) (gw_0) rfl 0 (by decide) (hts (.fieldLink RX2 11 "PoreField$Ground" "cells" "[LPoreField$Cell;") (by decide +kernel)) (fun _ h9 => h9) rfl dX2_evenOut_34 ?_
      refine lv_iload_n hx hb dX2_evenOut_37 rfl (lv_at hl 1 rfl) ?_
      refine x_aald (b := (g + (5 + 2 * (nbd ce b)))) hx hb hK.1 hP (by omega) (by omega) 1 (gw_1) rfl (cl_of_nI (i := (nbd ce b)) hnb.2 (by omega)) rfl (vp_in_of_nI (i := (nbd ce b)) hnb.2 (by omega) (by omega)) dX2_evenOut_38 ?_
      refine lv_astore (lv' := [(5, .ref (g + (5 + 2 * (nbd ce b)))), (4, .ref (g + (5 + 2 * ce))), (3, .int (m_nb ce b)), (0, .ref g), (1, .int (nI ce)), (2, .int b)]) hx hb dX2_evenOut_39 hl (by decide) rfl (fun ls hl => ?_)
      refine lv_aload hx hb dX2_evenOut_41 (lv_at hl 1 rfl) ?_
      refine x_calli (va_runV (As := []) (rest := []) ⟨hx, hb, hml, hown, hts⟩ (c_X1_pressure l D cy lo n w0 g M (by omega) (by omega) ce (by omega) (hG.rm (by omega))) (cwV 0 hts gX2_evenOut_X1_pressure rfl rfl rfl (by decide +kernel) ⟨Nat.le_of_ble_eq_true rfl, Nat.le_of_ble_eq_true rfl⟩) (preV hP hK (x_recv (ci := 1) (q := (RX1, TX1, 4)) hK.1 hP (by omega) (by omega) rfl (gw_cell (by omega)))) rfl rfl hl.1 rfl (lv_room (Nat.le_of_ble_eq_true rfl)) dX2_evenOut_43 ⟨Nat.le_of_ble_eq_true rfl, Nat.le_of_ble_eq_true rfl⟩) hS (fun H locs hP hS => ?_)
      refine lv_aload hx hb dX2_evenOut_46 (lv_at hl 0 rfl) ?_
      refine x_calli (va_runV (As := []) (rest := [.int (m_pressure M ce)]) ⟨hx, hb, hml, hown, hts⟩ (c_X1_pressure l D cy lo n w0 g M (by omega) (by omega) (nbd ce b) (by omega) (hG.rm (by omega))) (cwV 0 hts gX2_evenOut_X1_pressure rfl rfl rfl (by decide +kernel) ⟨Nat.le_of_ble_eq_true rfl, Nat.le_of_ble_eq_true rfl⟩) (preV hP hK (x_recv (ci := 1) (q := (RX1, TX1, 4)) hK.1 hP (by omega) (by omega) rfl (gw_cell (by omega)))) rfl rfl hl.1 rfl (lv_room (Nat.le_of_ble_eq_true rfl)) dX2_evenOut_48 ⟨Nat.le_of_ble_eq_true rfl, Nat.le_of_ble_eq_true rfl⟩) hS (fun H locs hP hS => ?_)
      refine lv_isub hx hb dX2_evenOut_51 ?_
      refine lv_istore (lv' := [(6, .int ((m_pressure M ce) - (m_pressure M (nbd ce b)))), (5, .ref (g + (5 + 2 * (nbd ce b)))), (4, .ref (g + (5 + 2 * ce))), (3, .int (m_nb ce b)), (0, .ref g), (1, .int (nI ce)), (2, .int b)]) hx hb dX2_evenOut_52 hl (by decide) rfl (fun ls hl => ?_)
      refine lv_iload hx hb dX2_evenOut_54 (lv_at hl 0 rfl) ?_
      refine lv_if_le (tgt := 77) hx hb dX2_evenOut_56 (by decide) (fun c_56 => ?_) (fun c_56 => ?_)
      · refine lv_aload hx hb dX2_evenOut_77 (lv_at hl 1 rfl) ?_
        refine lv_iload hx hb dX2_evenOut_79 (lv_at hl 0 rfl) ?_
        refine lv_ineg hx hb dX2_evenOut_81 ?_
        refine lv_bipush (v := 20) hx hb dX2_evenOut_82 (by decide) ?_
        refine lv_idiv hx hb dX2_evenOut_84 (by decide) ?_
        refine lv_aload hx hb dX2_evenOut_85 (lv_at hl 2 rfl) ?_
        refine x_get (ref := RX1) (C := RX1) (T := TX1) (N := 4) (ci := 1) (v := .ref (g + (6 + 2 * ce))) hx hb hts iX1 hown hK.1 hP (by omega) (by omega) (gw_cell (by omega)) rfl 1 (by decide) (hts (.fieldLink RX2 58 "PoreField$Cell" "fluids" "[I") (by decide +kernel)) (fun _ h9 => h9) rfl dX2_evenOut_87 ?_
        refine x_callv (va_runV (As := [.int ((-((m_pressure M ce) - (m_pressure M (nbd ce b)))) / (20 : Int32)), .ref (g + (6 + 2 * ce))]) (rest := []) ⟨hx, hb, hml, hown, hts⟩ (c_X1_moveOut l D cy lo n w0 g M (by omega) (by omega) (nbd ce b) (by omega) ((-((m_pressure M ce) - (m_pressure M (nbd ce b)))) / (20 : Int32)) (6 + 2 * ce) (gRow_fl (by omega))) (cwV 2 hts gX2_evenOut_X1_moveOut rfl rfl rfl (by decide +kernel) ⟨Nat.le_of_ble_eq_true rfl, Nat.le_of_ble_eq_true rfl⟩) (preV hP hK (x_recv (ci := 1) (q := (RX1, TX1, 4)) hK.1 hP (by omega) (by omega) rfl (gw_cell (by omega)))) rfl rfl hl.1 rfl (lv_room (Nat.le_of_ble_eq_true rfl)) dX2_evenOut_90 ⟨Nat.le_of_ble_eq_true rfl, Nat.le_of_ble_eq_true rfl⟩) hS (fun H locs hP hS => ?_)
        have hG : GI nd (m_moveOut M (nbd ce b) ((-((m_pressure M ce) - (m_pressure M (nbd ce b)))) / (20 : Int32)) (6 + 2 * ce)) := hG.cg (cg_moveOut (by omega))
        exact W.vret hx hb hr (fun tE ht hW => ⟨⟨(), rfl, trivial, x_at ht ((by rw [show m_even b ce M = m_moveOut M (nbd ce b) ((-((m_pressure M ce) - (m_pressure M (nbd ce b)))) / (20 : Int32)) (6 + 2 * ce) from (by simp only [m_even, if_neg c_8, if_pos c_21, if_pos c_56])]; exact hP))⟩, hS.F ht⟩) hS.2.2 dX2_evenOut_93
      · refine lv_aload hx hb dX2_evenOut_59 (lv_at hl 2 rfl) ?_
        refine lv_iload hx hb dX2_evenOut_61 (lv_at hl 0 rfl) ?_
        refine lv_bipush (v := 20) hx hb dX2_evenOut_63 (by decide) ?_
        refine lv_idiv hx hb dX2_evenOut_65 (by decide) ?_
        refine lv_aload hx hb dX2_evenOut_66 (lv_at hl 1 rfl) ?_
        refine x_get (ref := RX1) (C := RX1) (T := TX1) (N := 4) (ci := 1) (v := .ref (g + (6 + 2 * (nbd ce b)))) hx hb hts iX1 hown hK.1 hP (by omega) (by omega) (gw_cell (by omega)) rfl 1 (by decide) (hts (.fieldLink RX2 58 "PoreField$Cell" "fluids" "[I") (by decide +kernel)) (fun _ h9 => h9) rfl dX2_evenOut_68 ?_
        refine x_callv (va_runV (As := [.int (((m_pressure M ce) - (m_pressure M (nbd ce b))) / (20 : Int32)), .ref (g + (6 + 2 * (nbd ce b)))]) (rest := []) ⟨hx, hb, hml, hown, hts⟩ (c_X1_moveOut l D cy lo n w0 g M (by omega) (by omega) ce (by omega) (((m_pressure M ce) - (m_pressure M (nbd ce b))) / (20 : Int32)) (6 + 2 * (nbd ce b)) (gRow_fl (by omega))) (cwV 2 hts gX2_evenOut_X1_moveOut rfl rfl rfl (by decide +kernel) ⟨Nat.le_of_ble_eq_true rfl, Nat.le_of_ble_eq_true rfl⟩) (preV hP hK (x_recv (ci := 1) (q := (RX1, TX1, 4)) hK.1 hP (by omega) (by omega) rfl (gw_cell (by omega)))) rfl rfl hl.1 rfl (lv_room (Nat.le_of_ble_eq_true rfl)) dX2_evenOut_71 ⟨Nat.le_of_ble_eq_true rfl, Nat.le_of_ble_eq_true rfl⟩) hS (fun H locs hP hS => ?_)
        have hG : GI nd (m_moveOut M ce (((m_pressure M ce) - (m_pressure M (nbd ce b))) / (20 : Int32)) (6 + 2 * (nbd ce b))) := hG.cg (cg_moveOut (by omega))
        refine lv_goto (tgt := 93) hx hb dX2_evenOut_74 (by decide) ?_
        exact W.vret hx hb hr (fun tE ht hW => ⟨⟨(), rfl, trivial, x_at ht ((by rw [show m_even b ce M = m_moveOut M ce (((m_pressure M ce) - (m_pressure M (nbd ce b))) / (20 : Int32)) (6 + 2 * (nbd ce b)) from (by simp only [m_even, if_neg c_8, if_pos c_21, if_neg c_56])]; exact hP))⟩, hS.F ht⟩) hS.2.2 dX2_evenOut_93
    · exact W.vret hx hb hr (fun tE ht hW => ⟨⟨(), rfl, trivial, x_at ht ((by rw [show m_even b ce M = M from (by simp only [m_even, if_neg c_8, if_neg c_21])]; exact hP))⟩, hS.F ht⟩) hS.2.2 dX2_evenOut_24

set_option maxRecDepth 100000 in
set_option maxHeartbeats 4000000 in
/-- Ground.passMonth -/
theorem c_X2_passMonth (l : Launch) (D : va_G) (cy : Nat → ClassId) (lo n : Nat) (w0 : Nat → va_E) (g : Nat) (M : Mem) (hg1 : lo ≤ g) (hg2 : g + 49 ≤ lo + n) (nd : Nat) (hG : GI nd M)  : Met l yX2_passMonth wsX2_passMonth ({ frames := 3, cells := 0, slots := 0, locals := 75 }) (PcW D cy lo n (gw cy w0 g M) [.ref g]) (QiW D lo n (gw cy w0 g (m_month nd M)) (m_month nd M 4 0)) 0 0 (fun q : Nat => lo ≤ q) := by
  refine Met.ofW (cc := cX2_passMonth) (maxL := 3) (ret := (some .int)) (by decide) rfl ?_
  intro p e s m args below meth c s₁ B hml hv
  obtain ⟨rfl, hP, hK, hS⟩ := x_entry hv
  have hx := B.exec
  have hb := B.bytes
  have hr := B.returns
  have hts := atoms_spec (ws := wsX2_passMonth) B.pre
  have hown : s.vm.findClass RX2 = some m.cls := findClass_of_methodNamed B.named
  have hlocks := B.notSynchronized
  have iX2 : ∀ w ∈ u_ws RX2 TX2 12, w ∈ wsX2_passMonth := by decide +kernel
  have iX4 : ∀ w ∈ u_ws RX4 TX4 5, w ∈ wsX2_passMonth := by decide +kernel
  have hl := lv_entry ([.ref g]) (n := 3) (Nat.le_of_ble_eq_true rfl)
  rw [lg_entry_eq]
  generalize (lg_sl ([.ref g]) ++ List.replicate (3 - (lg_sl ([.ref g])).length) Slot.unset).toArray = ls at hl ⊢
  have hl : lv_has ls 3 [(0, .ref g)] := hl
  have hG0 := hG
  have hnd := hG.1
  refine lv_aload_n hx hb dX2_passMonth_0 rfl (lv_at hl 0 rfl) ?_
  refine x_callv (va_runV (As := []) (rest := []) ⟨hx, hb, hml, hown, hts⟩ (c_X2_startMonth l D cy lo n w0 g M (by omega) (by omega) nd hG) (cwV 0 hts gX2_passMonth_X2_startMonth rfl rfl rfl (by decide +kernel) ⟨Nat.le_of_ble_eq_true rfl, Nat.le_of_ble_eq_true rfl⟩) (preV hP hK (x_recv (ci := 2) (q := (RX2, TX2, 12)) hK.1 hP (by omega) (by omega) rfl (gw_0))) rfl rfl hl.1 rfl (lv_room (Nat.le_of_ble_eq_true rfl)) dX2_passMonth_1 ⟨Nat.le_of_ble_eq_true rfl, Nat.le_of_ble_eq_true rfl⟩) hS (fun H locs hP hS => ?_)
  have hG : GI nd (m_start nd M) := hG.cg cg_start
  have hG1 := hG
  refine lv_iconst (v := 1) hx hb dX2_passMonth_4 (by decide) ?_
  refine lv_istore_n (lv' := [(1, .int (1 : Int32)), (0, .ref g)]) hx hb dX2_passMonth_5 rfl hl (by decide) rfl (fun ls hl => ?_)
  have hloop6 : ∀ (r_r r : Nat) (H : Heap) (locs : List Loc) (ls : Array Slot), r + r_r = 9 → lv_has ls 3 [(1, .int (nI (r + 1))), (0, .ref g)] → va_P D vwCl (rl lo n (gw cy w0 g (fo (m_rank nd) r (m_start nd M)))) H → va_S (fun q : Nat => lo ≤ q) s.heap H locs → W p l e (headSpec wsX2_passMonth ({ frames := 3, cells := 0, slots := 0, locals := 75 })).room s m (([.ref g] : List Value).toArray) below meth c H locs 0 0 (MQ below (QiW D lo n (gw cy w0 g (m_month nd M)) (m_month nd M 4 0)) (([.ref g] : List Value).toArray) s 0 0 (fun q : Nat => lo ≤ q)) (F0 m 6 ls []) := by
    intro r_r
    induction r_r with
    | zero =>
      intro r H locs ls hk6 hl hP hS
      obtain rfl : r = 9 := by omega
      have hG : GI nd (fo (m_rank nd) 9 (m_start nd M)) := hG1.cg cg_ranks
      refine lv_iload_n hx hb dX2_passMonth_6 rfl (lv_at hl 0 rfl) ?_
      refine lv_bipush (v := 9) hx hb dX2_passMonth_7 (by decide) ?_
      refine lv_icmp_gt (tgt := 69) hx hb dX2_passMonth_9 (by decide) (fun _ => ?_) (fun c => absurd ((br_lt (show (9 : Int32) = nI 9 from rfl) (show (nI (9 + 1)) = nI (9 + 1) from rfl) (by omega) (by omega)).mpr (by omega)) c)
      refine lv_aload_n hx hb dX2_passMonth_69 rfl (lv_at hl 1 rfl) ?_
      refine x_callv (va_runV (As := []) (rest := []) ⟨hx, hb, hml, hown, hts⟩ (c_X2_putGasBack l D cy lo n w0 g (fo (m_rank nd) 9 (m_start nd M)) (by omega) (by omega) nd hG) (cwV 0 hts gX2_passMonth_X2_putGasBack rfl rfl rfl (by decide +kernel) ⟨Nat.le_of_ble_eq_true rfl, Nat.le_of_ble_eq_true rfl⟩) (preV hP hK (x_recv (ci := 2) (q := (RX2, TX2, 12)) hK.1 hP (by omega) (by omega) rfl (gw_0))) rfl rfl hl.1 rfl (lv_room (Nat.le_of_ble_eq_true rfl)) dX2_passMonth_70 ⟨Nat.le_of_ble_eq_true rfl, Nat.le_of_ble_eq_true rfl⟩) hS (fun H locs hP hS => ?_)
      have hG : GI nd (m_gas nd (fo (m_rank nd) 9 (m_start nd M))) := hG.cg cg_gas
      refine lv_aload_n hx hb dX2_passMonth_73 rfl (lv_at hl 1 rfl) ?_
      refine x_callv (va_runV (As := []) (rest := []) ⟨hx, hb, hml, hown, hts⟩ (c_X2_putWaterIn l D cy lo n w0 g (m_gas nd (fo (m_rank nd) 9 (m_start nd M))) (by omega) (by omega) nd hG) (cwV 0 hts gX2_passMonth_X2_putWaterIn rfl rfl rfl (by decide +kernel) ⟨Nat.le_of_ble_eq_true rfl, Nat.le_of_ble_eq_true rfl⟩) (preV hP hK (x_recv (ci := 2) (q := (RX2, TX2, 12)) hK.1 hP (by omega) (by omega) rfl (gw_0))) rfl rfl hl.1 rfl (lv_room (Nat.le_of_ble_eq_true rfl)) dX2_passMonth_74 ⟨Nat.le_of_ble_eq_true rfl, Nat.le_of_ble_eq_true rfl⟩) hS (fun H locs hP hS => ?_)
      have hG : GI nd (m_water nd (m_gas nd (fo (m_rank nd) 9 (m_start nd M)))) := hG.cg cg_water1
      have hG2 := hG
      refine lv_iconst (v := 0) hx hb dX2_passMonth_77 (by decide) ?_
      refine lv_istore_n (lv' := [(1, .int (0 : Int32)), (0, .ref g)]) hx hb dX2_passMonth_78 rfl hl (by decide) rfl (fun ls hl => ?_)
      have hloop79 : ∀ (ci_r ci : Nat) (H : Heap) (locs : List Loc) (ls : Array Slot), ci + ci_r = 16 → lv_has ls 3 [(1, .int (nI ci)), (0, .ref g)] → va_P D vwCl (rl lo n (gw cy w0 g (fo m_evens ci (m_water nd (m_gas nd (fo (m_rank nd) 9 (m_start nd M))))))) H → va_S (fun q : Nat => lo ≤ q) s.heap H locs → W p l e (headSpec wsX2_passMonth ({ frames := 3, cells := 0, slots := 0, locals := 75 })).room s m (([.ref g] : List Value).toArray) below meth c H locs 0 0 (MQ below (QiW D lo n (gw cy w0 g (m_month nd M)) (m_month nd M 4 0)) (([.ref g] : List Value).toArray) s 0 0 (fun q : Nat => lo ≤ q)) (F0 m 79 ls []) := by
        intro ci_r
        induction ci_r with
        | zero =>
          intro ci H locs ls hk79 hl hP hS
          obtain rfl : ci = 16 := by omega
          have hG : GI nd (fo m_evens 16 (m_water nd (m_gas nd (fo (m_rank nd) 9 (m_start nd M))))) := hG2.cg cg_evens
          refine lv_iload_n hx hb dX2_passMonth_79 rfl (lv_at hl 0 rfl) ?_
          refine lv_bipush (v := 16) hx hb dX2_passMonth_80 (by decide) ?_
          refine lv_icmp_ge (tgt := 103) hx hb dX2_passMonth_82 (by decide) (fun _ => ?_) (fun c => absurd ((br_le (show (16 : Int32) = nI 16 from rfl) (show (nI 16) = nI 16 from rfl) (by omega) (by omega)).mpr (by omega)) c)
          refine lv_aload_n hx hb dX2_passMonth_103 rfl (lv_at hl 1 rfl) ?_
          refine x_get (ref := RX2) (C := RX2) (T := TX2) (N := 12) (ci := 2) (v := .ref (g + 4)) hx hb hts iX2 hown hK.1 hP (by omega) (by omega) (gw_0) rfl 7 (by decide) (hts (.fieldLink RX2 34 "PoreField$Ground" "cameUp" "[I") (by decide +kernel)) (fun _ h9 => h9) rfl dX2_passMonth_104 ?_
          refine lv_iconst (v := 0) hx hb dX2_passMonth_107 (by decide) ?_
          refine x_iald hx hb hK.1 hP (by omega) (by omega) 0 (gw_row (gRow_4)) rfl (cl_of_nI (i := 0) rfl (by omega)) (vp_in_of_nI (i := 0) rfl (by omega) (by omega)) dX2_passMonth_108 ?_
          exact W.iret (v := ((fo m_evens 16 (m_water nd (m_gas nd (fo (m_rank nd) 9 (m_start nd M))))) (4) 0)) hx hb hr (fun tE ht hW => ⟨⟨((fo m_evens 16 (m_water nd (m_gas nd (fo (m_rank nd) 9 (m_start nd M))))) (4) 0), (), rfl, rfl, x_at ht (hP)⟩, hS.F ht⟩) hS.2.2 dX2_passMonth_109
        | succ ci_r ih79 =>
          intro ci H locs ls hk79 hl hP hS
          have hG : GI nd (fo m_evens ci (m_water nd (m_gas nd (fo (m_rank nd) 9 (m_start nd M))))) := hG2.cg cg_evens
          refine lv_iload_n hx hb dX2_passMonth_79 rfl (lv_at hl 0 rfl) ?_
          refine lv_bipush (v := 16) hx hb dX2_passMonth_80 (by decide) ?_
          refine lv_icmp_ge (tgt := 103) hx hb dX2_passMonth_82 (by decide) (fun c => absurd ((br_le (show (16 : Int32) = nI 16 from rfl) (show (nI ci) = nI ci from rfl) (by omega) (by omega)).mp c) (by omega)) (fun _ => ?_)
          refine lv_aload_n hx hb dX2_passMonth_85 rfl (lv_at hl 1 rfl) ?_
          refine lv_iload_n hx hb dX2_passMonth_86 rfl (lv_at hl 0 rfl) ?_
          refine lv_iconst (v := 1) hx hb dX2_passMonth_87 (by decide) ?_
          refine x_callv (va_runV (As := [.int (nI ci), .int (1 : Int32)]) (rest := []) ⟨hx, hb, hml, hown, hts⟩ (c_X2_evenOut l D cy lo n w0 g (fo m_evens ci (m_water nd (m_gas nd (fo (m_rank nd) 9 (m_start nd M))))) (by omega) (by omega) nd hG ci (by omega) (1 : Int32)) (cwV 2 hts gX2_passMonth_X2_evenOut rfl rfl rfl (by decide +kernel) ⟨Nat.le_of_ble_eq_true rfl, Nat.le_of_ble_eq_true rfl⟩) (preV hP hK (x_recv (ci := 2) (q := (RX2, TX2, 12)) hK.1 hP (by omega) (by omega) rfl (gw_0))) rfl rfl hl.1 rfl (lv_room (Nat.le_of_ble_eq_true rfl)) dX2_passMonth_88 ⟨Nat.le_of_ble_eq_true rfl, Nat.le_of_ble_eq_true rfl⟩) hS (fun H locs hP hS => ?_)
          have hG : GI nd (m_even (1 : Int32) ci (fo m_evens ci (m_water nd (m_gas nd (fo (m_rank nd) 9 (m_start nd M)))))) := hG.cg cg_even
          refine lv_aload_n hx hb dX2_passMonth_91 rfl (lv_at hl 1 rfl) ?_
          refine lv_iload_n hx hb dX2_passMonth_92 rfl (lv_at hl 0 rfl) ?_
          refine lv_iconst (v := 0) hx hb dX2_passMonth_93 (by decide) ?_
          refine x_callv (va_runV (As := [.int (nI ci), .int (0 : Int32)]) (rest := []) ⟨hx, hb, hml, hown, hts⟩ (c_X2_evenOut l D cy lo n w0 g (m_even (1 : Int32) ci (fo m_evens ci (m_water nd (m_gas nd (fo (m_rank nd) 9 (m_start nd M)))))) (by omega) (by omega) nd hG ci (by omega) (0 : Int32)) (cwV 2 hts gX2_passMonth_X2_evenOut rfl rfl rfl (by decide +kernel) ⟨Nat.le_of_ble_eq_true rfl, Nat.le_of_ble_eq_true rfl⟩) (preV hP hK (x_recv (ci := 2) (q := (RX2, TX2, 12)) hK.1 hP (by omega) (by omega) rfl (gw_0))) rfl rfl hl.1 rfl (lv_room (Nat.le_of_ble_eq_true rfl)) dX2_passMonth_94 ⟨Nat.le_of_ble_eq_true rfl, Nat.le_of_ble_eq_true rfl⟩) hS (fun H locs hP hS => ?_)
          have hG : GI nd (m_even (0 : Int32) ci (m_even (1 : Int32) ci (fo m_evens ci (m_water nd (m_gas nd (fo (m_rank nd) 9 (m_start nd M))))))) := hG.cg cg_even
          refine lv_iinc (v := (nI (ci + 1))) (lv' := [(1, .int (nI (ci + 1))), (0, .ref g)]) hx hb dX2_passMonth_97 hl (k := 0) rfl (nI_1 _) (by decide) rfl (fun ls hl => ?_)
          refine lv_goto (tgt := 79) hx hb dX2_passMonth_100 (by decide) ?_
          exact ih79 (ci + 1) _ _ _ (by omega) (lv_sub hl [0, 1] rfl) (hP) hS
      exact hloop79 16 0 _ _ _ (by omega) (lv_sub hl [0, 1] rfl) (hP) hS
    | succ r_r ih6 =>
      intro r H locs ls hk6 hl hP hS
      have hG : GI nd (fo (m_rank nd) r (m_start nd M)) := hG1.cg cg_ranks
      refine lv_iload_n hx hb dX2_passMonth_6 rfl (lv_at hl 0 rfl) ?_
      refine lv_bipush (v := 9) hx hb dX2_passMonth_7 (by decide) ?_
      refine lv_icmp_gt (tgt := 69) hx hb dX2_passMonth_9 (by decide) (fun c => absurd ((br_lt (show (9 : Int32) = nI 9 from rfl) (show (nI (r + 1)) = nI (r + 1) from rfl) (by omega) (by omega)).mp c) (by omega)) (fun _ => ?_)
      refine lv_iconst (v := 0) hx hb dX2_passMonth_12 (by decide) ?_
      refine lv_istore_n (lv' := [(2, .int (0 : Int32)), (1, .int (nI (r + 1))), (0, .ref g)]) hx hb dX2_passMonth_13 rfl hl (by decide) rfl (fun ls hl => ?_)
      have hloop14 : ∀ (w_r w : Nat) (H : Heap) (locs : List Loc) (ls : Array Slot), w + w_r = nd → lv_has ls 3 [(2, .int (nI w)), (1, .int (nI (r + 1))), (0, .ref g)] → va_P D vwCl (rl lo n (gw cy w0 g (fo (m_rankS r) w (fo (m_rank nd) r (m_start nd M))))) H → va_S (fun q : Nat => lo ≤ q) s.heap H locs → W p l e (headSpec wsX2_passMonth ({ frames := 3, cells := 0, slots := 0, locals := 75 })).room s m (([.ref g] : List Value).toArray) below meth c H locs 0 0 (MQ below (QiW D lo n (gw cy w0 g (m_month nd M)) (m_month nd M 4 0)) (([.ref g] : List Value).toArray) s 0 0 (fun q : Nat => lo ≤ q)) (F0 m 14 ls []) := by
        intro w_r
        induction w_r with
        | zero =>
          intro w H locs ls hk14 hl hP hS
          have ew : w = nd := by omega
          rw [ew] at hP
          rw [ew] at hl
          have hG : GI nd (fo (m_rankS r) nd (fo (m_rank nd) r (m_start nd M))) := (hG1.cg cg_ranks).cg cg_rank1
          refine lv_iload_n hx hb dX2_passMonth_14 rfl (lv_at hl 0 rfl) ?_
          refine lv_aload_n hx hb dX2_passMonth_15 rfl (lv_at hl 2 rfl) ?_
          refine x_get (ref := RX2) (C := RX2) (T := TX2) (N := 12) (ci := 2) (v := .int ((fo (m_rankS r) nd (fo (m_rank nd) r (m_start nd M))) 0 2)) hx hb hts iX2 hown hK.1 hP (by omega) (by omega) (gw_0) rfl 2 (by decide) (hts (.fieldLink RX2 46 "PoreField$Ground" "drilled" "I") (by decide +kernel)) (fun _ h9 => h9) rfl dX2_passMonth_16 ?_
          refine lv_icmp_ge (tgt := 63) hx hb dX2_passMonth_19 (by decide) (fun _ => ?_) (fun c => absurd ((br_le (show ((fo (m_rankS r) nd (fo (m_rank nd) r (m_start nd M))) 0 2) = nI nd from hG.dr) (show (nI nd) = nI nd from rfl) (by omega) (by omega)).mpr (by omega)) c)
          refine lv_iinc (v := (nI ((r + 1) + 1))) (lv' := [(1, .int (nI ((r + 1) + 1))), (2, .int (nI nd)), (0, .ref g)]) hx hb dX2_passMonth_63 hl (k := 1) rfl (nI_1 _) (by decide) rfl (fun ls hl => ?_)
          refine lv_goto (tgt := 6) hx hb dX2_passMonth_66 (by decide) ?_
          exact ih6 (r + 1) _ _ _ (by omega) (lv_sub hl [0, 2] rfl) (hP) hS
        | succ w_r ih14 =>
          intro w H locs ls hk14 hl hP hS
          have hG : GI nd (fo (m_rankS r) w (fo (m_rank nd) r (m_start nd M))) := (hG1.cg cg_ranks).cg cg_rank1
          refine lv_iload_n hx hb dX2_passMonth_14 rfl (lv_at hl 0 rfl) ?_
          refine lv_aload_n hx hb dX2_passMonth_15 rfl (lv_at hl 2 rfl) ?_
          refine x_get (ref := RX2) (C := RX2) (T := TX2) (N := 12) (ci := 2) (v := .int ((fo (m_rankS r) w (fo (m_rank nd) r (m_start nd M))) 0 2)) hx hb hts iX2 hown hK.1 hP (by omega) (by omega) (gw_0) rfl 2 (by decide) (hts (.fieldLink RX2 46 "PoreField$Ground" "drilled" "I") (by decide +kernel)) (fun _ h9 => h9) rfl dX2_passMonth_16 ?_
          refine lv_icmp_ge (tgt := 63) hx hb dX2_passMonth_19 (by decide) (fun c => absurd ((br_le (show ((fo (m_rankS r) w (fo (m_rank nd) r (m_start nd M))) 0 2) = nI nd from hG.dr) (show (nI w) = nI w from rfl) (by omega) (by omega)).mp c) (by omega)) (fun _ => ?_)
          refine lv_aload_n hx hb dX2_passMonth_22 rfl (lv_at hl 2 rfl) ?_
          refine x_get (ref := RX2) (C := RX2) (T := TX2) (N := 12) (ci := 2) (v := .ref (g + 2)) hx hb hts iX2 hown hK.1 hP (by omega) (by omega) (gw_0) rfl 1 (by decide) (hts (.fieldLink RX2 19 "PoreField$Ground" "wells" "[LPoreField$Well;") (by decide +kernel)) (fun _ h9 => h9) rfl dX2_passMonth_23 ?_
          refine lv_iload_n hx hb dX2_passMonth_26 rfl (lv_at hl 0 rfl) ?_
          refine x_aald (b := (g + (37 + 2 * w))) hx hb hK.1 hP (by omega) (by omega) 2 (gw_2) rfl (cl_of_nI (i := w) rfl (by omega)) rfl (vp_in_of_nI (i := w) rfl (by omega) (by omega)) dX2_passMonth_27 ?_
          refine x_get (ref := RX4) (C := RX4) (T := TX4) (N := 5) (ci := 4) (v := .int ((fo (m_rankS r) w (fo (m_rank nd) r (m_start nd M))) (37 + 2 * w) 0)) hx hb hts iX4 hown hK.1 hP (by omega) (by omega) (gw_well (by omega)) rfl 0 (by decide) (hts (.fieldLink RX2 72 "PoreField$Well" "kind" "I") (by decide +kernel)) (fun _ h9 => h9) rfl dX2_passMonth_28 ?_
          refine lv_if_ne (tgt := 57) hx hb dX2_passMonth_31 (by decide) (fun c_31 => ?_) (fun c_31 => ?_)
          · refine lv_iinc (v := (nI (w + 1))) (lv' := [(2, .int (nI (w + 1))), (1, .int (nI (r + 1))), (0, .ref g)]) hx hb dX2_passMonth_57 hl (k := 0) rfl (nI_1 _) (by decide) rfl (fun ls hl => ?_)
            refine lv_goto (tgt := 14) hx hb dX2_passMonth_60 (by decide) ?_
            exact ih14 (w + 1) _ _ _ (by omega) (lv_sub hl [0, 1, 2] rfl) ((by rw [show fo (m_rankS r) (w + 1) (fo (m_rank nd) r (m_start nd M)) = fo (m_rankS r) w (fo (m_rank nd) r (m_start nd M)) from (by simp only [fo, m_rankS, if_neg c_31])]; exact hP)) hS
          · refine lv_aload_n hx hb dX2_passMonth_34 rfl (lv_at hl 2 rfl) ?_
            refine x_get (ref := RX2) (C := RX2) (T := TX2) (N := 12) (ci := 2) (v := .ref (g + 2)) hx hb hts iX2 hown hK.1 hP (by omega) (by omega) (gw_0) rfl 1 (by decide) (hts (.fieldLink RX2 19 "PoreField$Ground" "wells" "[LPoreField$Well;") (by decide +kernel)) (fun _ h9 => h9) rfl dX2_passMonth_35 ?_
            refine lv_iload_n hx hb dX2_passMonth_38 rfl (lv_at hl 0 rfl) ?_
            refine x_aald (b := (g + (37 + 2 * w))) hx hb hK.1 hP (by omega) (by omega) 2 (gw_2) rfl (cl_of_nI (i := w) rfl (by omega)) rfl (vp_in_of_nI (i := w) rfl (by omega) (by omega)) dX2_passMonth_39 ?_
            refine x_get (ref := RX4) (C := RX4) (T := TX4) (N := 5) (ci := 4) (v := .int ((fo (m_rankS r) w (fo (m_rank nd) r (m_start nd M))) (37 + 2 * w) 3)) hx hb hts iX4 hown hK.1 hP (by omega) (by omega) (gw_well (by omega)) rfl 3 (by decide) (hts (.fieldLink RX2 75 "PoreField$Well" "rank" "I") (by decide +kernel)) (fun _ h9 => h9) rfl dX2_passMonth_40 ?_
            refine lv_iload_n hx hb dX2_passMonth_43 rfl (lv_at hl 1 rfl) ?_
            refine lv_icmp_ne (tgt := 57) hx hb dX2_passMonth_44 (by decide) (fun c_44 => ?_) (fun c_44 => ?_)
            · refine lv_iinc (v := (nI (w + 1))) (lv' := [(2, .int (nI (w + 1))), (1, .int (nI (r + 1))), (0, .ref g)]) hx hb dX2_passMonth_57 hl (k := 0) rfl (nI_1 _) (by decide) rfl (fun ls hl => ?_)
              refine lv_goto (tgt := 14) hx hb dX2_passMonth_60 (by decide) ?_
              exact ih14 (w + 1) _ _ _ (by omega) (lv_sub hl [0, 1, 2] rfl) ((by rw [show fo (m_rankS r) (w + 1) (fo (m_rank nd) r (m_start nd M)) = fo (m_rankS r) w (fo (m_rank nd) r (m_start nd M)) from (by simp only [fo, m_rankS, if_pos c_31, if_neg c_44])]; exact hP)) hS
            · refine lv_aload_n hx hb dX2_passMonth_47 rfl (lv_at hl 2 rfl) ?_
              refine lv_aload_n hx hb dX2_passMonth_48 rfl (lv_at hl 2 rfl) ?_
              refine x_get (ref := RX2) (C := RX2) (T := TX2) (N := 12) (ci := 2) (v := .ref (g + 2)) hx hb hts iX2 hown hK.1 hP (by omega) (by omega) (gw_0) rfl 1 (by decide) (hts (.fieldLink RX2 19 "PoreField$Ground" "wells" "[LPoreField$Well;") (by decide +kernel)) (fun _ h9 => h9) rfl dX2_passMonth_49 ?_
              refine lv_iload_n hx hb dX2_passMonth_52 rfl (lv_at hl 0 rfl) ?_
              refine x_aald (b := (g + (37 + 2 * w))) hx hb hK.1 hP (by omega) (by omega) 2 (gw_2) rfl (cl_of_nI (i := w) rfl (by omega)) rfl (vp_in_of_nI (i := w) rfl (by omega) (by omega)) dX2_passMonth_53 ?_
              refine x_callv (va_runV (As := [.ref (g + (37 + 2 * w))]) (rest := []) ⟨hx, hb, hml, hown, hts⟩ (c_X2_produce l D cy lo n w0 g (fo (m_rankS r) w (fo (m_rank nd) r (m_start nd M))) (by omega) (by omega) nd hG w (by omega)) (cwV 1 hts gX2_passMonth_X2_produce rfl rfl rfl (by decide +kernel) ⟨Nat.le_of_ble_eq_true rfl, Nat.le_of_ble_eq_true rfl⟩) (preV hP hK (x_recv (ci := 2) (q := (RX2, TX2, 12)) hK.1 hP (by omega) (by omega) rfl (gw_0))) rfl rfl hl.1 rfl (lv_room (Nat.le_of_ble_eq_true rfl)) dX2_passMonth_54 ⟨Nat.le_of_ble_eq_true rfl, Nat.le_of_ble_eq_true rfl⟩) hS (fun H locs hP hS => ?_)
              have hG : GI nd (m_produce w (fo (m_rankS r) w (fo (m_rank nd) r (m_start nd M)))) := hG.cg cg_produce
              refine lv_iinc (v := (nI (w + 1))) (lv' := [(2, .int (nI (w + 1))), (1, .int (nI (r + 1))), (0, .ref g)]) hx hb dX2_passMonth_57 hl (k := 0) rfl (nI_1 _) (by decide) rfl (fun ls hl => ?_)
              refine lv_goto (tgt := 14) hx hb dX2_passMonth_60 (by decide) ?_
              exact ih14 (w + 1) _ _ _ (by omega) (lv_sub hl [0, 1, 2] rfl) ((by rw [show fo (m_rankS r) (w + 1) (fo (m_rank nd) r (m_start nd M)) = m_produce w (fo (m_rankS r) w (fo (m_rank nd) r (m_start nd M))) from (by simp only [fo, m_rankS, if_pos c_31, if_pos c_44])]; exact hP)) hS
      exact hloop14 nd 0 _ _ _ (by omega) (lv_sub hl [0, 1, 2] rfl) (hP) hS
  exact hloop6 9 0 _ _ _ (by omega) (lv_sub hl [0, 1] rfl) (hP) hS

set_option maxRecDepth 100000 in
set_option maxHeartbeats 4000000 in
/-- Ground.passMonths -/
theorem c_X2_passMonths (l : Launch) (D : va_G) (cy : Nat → ClassId) (lo n : Nat) (w0 : Nat → va_E) (g : Nat) (M : Mem) (hg1 : lo ≤ g) (hg2 : g + 49 ≤ lo + n) (nd : Nat) (hG : GI nd M) (mo : Nat) (hmo : mo < 1000) : Met l yX2_passMonths wsX2_passMonths ({ frames := 4, cells := 0, slots := 0, locals := 97 }) (PcW D cy lo n (gw cy w0 g M) [.ref g, .int (nI mo)]) (QiW D lo n (gw cy w0 g ((m_months nd mo M).2)) ((m_months nd mo M).1)) 0 0 (fun q : Nat => lo ≤ q) := by
  refine Met.ofW (cc := cX2_passMonths) (maxL := 4) (ret := (some .int)) (by decide) rfl ?_
  intro p e s m args below meth c s₁ B hml hv
  obtain ⟨rfl, hP, hK, hS⟩ := x_entry hv
  have hx := B.exec
  have hb := B.bytes
  have hr := B.returns
  have hts := atoms_spec (ws := wsX2_passMonths) B.pre
  have hown : s.vm.findClass RX2 = some m.cls := findClass_of_methodNamed B.named
  have hlocks := B.notSynchronized
  have hl := lv_entry ([.ref g, .int (nI mo)]) (n := 4) (Nat.le_of_ble_eq_true rfl)
  rw [lg_entry_eq]
  generalize (lg_sl ([.ref g, .int (nI mo)]) ++ List.replicate (4 - (lg_sl ([.ref g, .int (nI mo)])).length) Slot.unset).toArray = ls at hl ⊢
  have hl : lv_has ls 4 [(0, .ref g), (1, .int (nI mo))] := hl
  have hG0 := hG
  refine lv_iconst (v := 0) hx hb dX2_passMonths_0 (by decide) ?_
  refine lv_istore_n (lv' := [(2, .int (0 : Int32)), (0, .ref g), (1, .int (nI mo))]) hx hb dX2_passMonths_1 rfl hl (by decide) rfl (fun ls hl => ?_)
  refine lv_iconst (v := 0) hx hb dX2_passMonths_2 (by decide) ?_
  refine lv_istore_n (lv' := [(3, .int (0 : Int32)), (2, .int (0 : Int32)), (0, .ref g), (1, .int (nI mo))]) hx hb dX2_passMonths_3 rfl hl (by decide) rfl (fun ls hl => ?_)
  have hloop4 : ∀ (k_r k : Nat) (H : Heap) (locs : List Loc) (ls : Array Slot), k + k_r = mo → lv_has ls 4 [(3, .int (nI k)), (2, .int ((m_months nd k M).1)), (0, .ref g), (1, .int (nI mo))] → va_P D vwCl (rl lo n (gw cy w0 g ((m_months nd k M).2))) H → va_S (fun q : Nat => lo ≤ q) s.heap H locs → W p l e (headSpec wsX2_passMonths ({ frames := 4, cells := 0, slots := 0, locals := 97 })).room s m (([.ref g, .int (nI mo)] : List Value).toArray) below meth c H locs 0 0 (MQ below (QiW D lo n (gw cy w0 g ((m_months nd mo M).2)) ((m_months nd mo M).1)) (([.ref g, .int (nI mo)] : List Value).toArray) s 0 0 (fun q : Nat => lo ≤ q)) (F0 m 4 ls []) := by
    intro k_r
    induction k_r with
    | zero =>
      intro k H locs ls hk4 hl hP hS
      have ek : k = mo := by omega
      rw [ek] at hP
      rw [ek] at hl
      have hG : GI nd (m_months nd mo M).2 := hG0.cg cg_months
      refine lv_iload_n hx hb dX2_passMonths_4 rfl (lv_at hl 0 rfl) ?_
      refine lv_iload_n hx hb dX2_passMonths_5 rfl (lv_at hl 3 rfl) ?_
      refine lv_icmp_ge (tgt := 22) hx hb dX2_passMonths_6 (by decide) (fun _ => ?_) (fun c => absurd ((br_le (show (nI mo) = nI mo from rfl) (show (nI mo) = nI mo from rfl) (by omega) (by omega)).mpr (by omega)) c)
      refine lv_iload_n hx hb dX2_passMonths_22 rfl (lv_at hl 1 rfl) ?_
      exact W.iret (v := ((m_months nd mo M).1)) hx hb hr (fun tE ht hW => ⟨⟨((m_months nd mo M).1), (), rfl, rfl, x_at ht (hP)⟩, hS.F ht⟩) hS.2.2 dX2_passMonths_23
    | succ k_r ih4 =>
      intro k H locs ls hk4 hl hP hS
      have hG : GI nd (m_months nd k M).2 := hG0.cg cg_months
      refine lv_iload_n hx hb dX2_passMonths_4 rfl (lv_at hl 0 rfl) ?_
      refine lv_iload_n hx hb dX2_passMonths_5 rfl (lv_at hl 3 rfl) ?_
      refine lv_icmp_ge (tgt := 22) hx hb dX2_passMonths_6 (by decide) (fun c => absurd ((br_le (show (nI mo) = nI mo from rfl) (show (nI k) = nI k from rfl) (by omega) (by omega)).mp c) (by omega)) (fun _ => ?_)
      refine lv_iload_n hx hb dX2_passMonths_9 rfl (lv_at hl 1 rfl) ?_
      refine lv_aload_n hx hb dX2_passMonths_10 rfl (lv_at hl 2 rfl) ?_
      refine x_calli (va_runV (As := []) (rest := [.int ((m_months nd k M).1)]) ⟨hx, hb, hml, hown, hts⟩ (c_X2_passMonth l D cy lo n w0 g ((m_months nd k M).2) (by omega) (by omega) nd hG) (cwV 0 hts gX2_passMonths_X2_passMonth rfl rfl rfl (by decide +kernel) ⟨Nat.le_of_ble_eq_true rfl, Nat.le_of_ble_eq_true rfl⟩) (preV hP hK (x_recv (ci := 2) (q := (RX2, TX2, 12)) hK.1 hP (by omega) (by omega) rfl (gw_0))) rfl rfl hl.1 rfl (lv_room (Nat.le_of_ble_eq_true rfl)) dX2_passMonths_11 ⟨Nat.le_of_ble_eq_true rfl, Nat.le_of_ble_eq_true rfl⟩) hS (fun H locs hP hS => ?_)
      refine lv_iadd hx hb dX2_passMonths_14 ?_
      refine lv_istore_n (lv' := [(2, .int (((m_months nd k M).1) + (m_month nd ((m_months nd k M).2) 4 0))), (3, .int (nI k)), (0, .ref g), (1, .int (nI mo))]) hx hb dX2_passMonths_15 rfl hl (by decide) rfl (fun ls hl => ?_)
      refine lv_iinc (v := (nI (k + 1))) (lv' := [(3, .int (nI (k + 1))), (2, .int (((m_months nd k M).1) + (m_month nd ((m_months nd k M).2) 4 0))), (0, .ref g), (1, .int (nI mo))]) hx hb dX2_passMonths_16 hl (k := 1) rfl (nI_1 _) (by decide) rfl (fun ls hl => ?_)
      refine lv_goto (tgt := 4) hx hb dX2_passMonths_19 (by decide) ?_
      have hst1 : (m_months nd (k + 1) M).1 = (((m_months nd k M).1) + (m_month nd ((m_months nd k M).2) 4 0)) := by simp only [months_succ]
      have hst2 : (m_months nd (k + 1) M).2 = m_month nd ((m_months nd k M).2) := by simp only [months_succ]
      have hl : lv_has ls 4 [(3, .int (nI (k + 1))), (2, .int ((m_months nd (k + 1) M).1)), (0, .ref g), (1, .int (nI mo))] := by rw [hst1]; exact hl
      exact ih4 (k + 1) _ _ _ (by omega) (lv_sub hl [0, 1, 2, 3] rfl) ((by rw [hst2]; exact hP)) hS
  exact hloop4 mo 0 _ _ _ (by omega) (lv_sub hl [0, 1, 2, 3] rfl) (hP) hS

set_option maxRecDepth 100000 in
set_option maxHeartbeats 4000000 in
/-- Ground.inAllCells -/
theorem c_X2_inAllCells (l : Launch) (D : va_G) (cy : Nat → ClassId) (lo n : Nat) (w0 : Nat → va_E) (g : Nat) (M : Mem) (hg1 : lo ≤ g) (hg2 : g + 49 ≤ lo + n) (f : Nat) (hf : f < 3) : Met l yX2_inAllCells wsX2_inAllCells ({ frames := 0, cells := 0, slots := 0, locals := 0 }) (PcW D cy lo n (gw cy w0 g M) [.ref g, .int (nI f)]) (QiW D lo n (gw cy w0 g M) (m_inAll M f 16)) 0 0 (fun q : Nat => lo ≤ q) := by
  refine Met.ofW (cc := cX2_inAllCells) (maxL := 4) (ret := (some .int)) (by decide) rfl ?_
  intro p e s m args below meth c s₁ B hml hv
  obtain ⟨rfl, hP, hK, hS⟩ := x_entry hv
  have hx := B.exec
  have hb := B.bytes
  have hr := B.returns
  have hts := atoms_spec (ws := wsX2_inAllCells) B.pre
  have hown : s.vm.findClass RX2 = some m.cls := findClass_of_methodNamed B.named
  have hlocks := B.notSynchronized
  have iX1 : ∀ w ∈ u_ws RX1 TX1 4, w ∈ wsX2_inAllCells := by decide +kernel
  have iX2 : ∀ w ∈ u_ws RX2 TX2 12, w ∈ wsX2_inAllCells := by decide +kernel
  have hl := lv_entry ([.ref g, .int (nI f)]) (n := 4) (Nat.le_of_ble_eq_true rfl)
  rw [lg_entry_eq]
  generalize (lg_sl ([.ref g, .int (nI f)]) ++ List.replicate (4 - (lg_sl ([.ref g, .int (nI f)])).length) Slot.unset).toArray = ls at hl ⊢
  have hl : lv_has ls 4 [(0, .ref g), (1, .int (nI f))] := hl
  refine lv_iconst (v := 0) hx hb dX2_inAllCells_0 (by decide) ?_
  refine lv_istore_n (lv' := [(2, .int (0 : Int32)), (0, .ref g), (1, .int (nI f))]) hx hb dX2_inAllCells_1 rfl hl (by decide) rfl (fun ls hl => ?_)
  refine lv_iconst (v := 0) hx hb dX2_inAllCells_2 (by decide) ?_
  refine lv_istore_n (lv' := [(3, .int (0 : Int32)), (2, .int (0 : Int32)), (0, .ref g), (1, .int (nI f))]) hx hb dX2_inAllCells_3 rfl hl (by decide) rfl (fun ls hl => ?_)
  have hloop4 : ∀ (k_r k : Nat) (H : Heap) (locs : List Loc) (ls : Array Slot), k + k_r = 16 → lv_has ls 4 [(3, .int (nI k)), (2, .int (m_inAll M f k)), (0, .ref g), (1, .int (nI f))] → va_P D vwCl (rl lo n (gw cy w0 g M)) H → va_S (fun q : Nat => lo ≤ q) s.heap H locs → W p l e (headSpec wsX2_inAllCells ({ frames := 0, cells := 0, slots := 0, locals := 0 })).room s m (([.ref g, .int (nI f)] : List Value).toArray) below meth c H locs 0 0 (MQ below (QiW D lo n (gw cy w0 g M) (m_inAll M f 16)) (([.ref g, .int (nI f)] : List Value).toArray) s 0 0 (fun q : Nat => lo ≤ q)) (F0 m 4 ls []) := by
    intro k_r
    induction k_r with
    | zero =>
      intro k H locs ls hk4 hl hP hS
      obtain rfl : k = 16 := by omega
      refine lv_iload_n hx hb dX2_inAllCells_4 rfl (lv_at hl 0 rfl) ?_
      refine lv_bipush (v := 16) hx hb dX2_inAllCells_5 (by decide) ?_
      refine lv_icmp_ge (tgt := 30) hx hb dX2_inAllCells_7 (by decide) (fun _ => ?_) (fun c => absurd ((br_le (show (16 : Int32) = nI 16 from rfl) (show (nI 16) = nI 16 from rfl) (by omega) (by omega)).mpr (by omega)) c)
      refine lv_iload_n hx hb dX2_inAllCells_30 rfl (lv_at hl 1 rfl) ?_
      exact W.iret (v := (m_inAll M f 16)) hx hb hr (fun tE ht hW => ⟨⟨(m_inAll M f 16), (), rfl, rfl, x_at ht (hP)⟩, hS.F ht⟩) hS.2.2 dX2_inAllCells_31
    | succ k_r ih4 =>
      intro k H locs ls hk4 hl hP hS
      refine lv_iload_n hx hb dX2_inAllCells_4 rfl (lv_at hl 0 rfl) ?_
      refine lv_bipush (v := 16) hx hb dX2_inAllCells_5 (by decide) ?_
      refine lv_icmp_ge (tgt := 30) hx hb dX2_inAllCells_7 (by decide) (fun c => absurd ((br_le (show (16 : Int32) = nI 16 from rfl) (show (nI k) = nI k from rfl) (by omega) (by omega)).mp c) (by omega)) (fun _ => ?_)
      refine lv_iload_n hx hb dX2_inAllCells_10 rfl (lv_at hl 1 rfl) ?_
      refine lv_aload_n hx hb dX2_inAllCells_11 rfl (lv_at hl 2 rfl) ?_
      refine x_get (ref := RX2) (C := RX2) (T := TX2) (N := 12) (ci := 2) (v := .ref (g + 1)) hx hb hts iX2 hown hK.1 hP (by omega) (by omega) (gw_0) rfl 0 (by decide) (hts (.fieldLink RX2 11 "PoreField$Ground" "cells" "[LPoreField$Cell;") (by decide +kernel)) (fun _ h9 => h9) rfl dX2_inAllCells_12 ?_
      refine lv_iload_n hx hb dX2_inAllCells_15 rfl (lv_at hl 0 rfl) ?_
      refine x_aald (b := (g + (5 + 2 * k))) hx hb hK.1 hP (by omega) (by omega) 1 (gw_1) rfl (cl_of_nI (i := k) rfl (by omega)) rfl (vp_in_of_nI (i := k) rfl (by omega) (by omega)) dX2_inAllCells_16 ?_
      refine x_get (ref := RX1) (C := RX1) (T := TX1) (N := 4) (ci := 1) (v := .ref (g + (6 + 2 * k))) hx hb hts iX1 hown hK.1 hP (by omega) (by omega) (gw_cell (by omega)) rfl 1 (by decide) (hts (.fieldLink RX2 58 "PoreField$Cell" "fluids" "[I") (by decide +kernel)) (fun _ h9 => h9) rfl dX2_inAllCells_17 ?_
      refine lv_iload_n hx hb dX2_inAllCells_20 rfl (lv_at hl 3 rfl) ?_
      refine x_iald hx hb hK.1 hP (by omega) (by omega) 0 (gw_row (gRow_fl (by omega))) rfl (cl_of_nI (i := f) rfl (by omega)) (vp_in_of_nI (i := f) rfl (by omega) (by omega)) dX2_inAllCells_21 ?_
      refine lv_iadd hx hb dX2_inAllCells_22 ?_
      refine lv_istore_n (lv' := [(2, .int ((m_inAll M f k) + (M (6 + 2 * k) f))), (3, .int (nI k)), (0, .ref g), (1, .int (nI f))]) hx hb dX2_inAllCells_23 rfl hl (by decide) rfl (fun ls hl => ?_)
      refine lv_iinc (v := (nI (k + 1))) (lv' := [(3, .int (nI (k + 1))), (2, .int ((m_inAll M f k) + (M (6 + 2 * k) f))), (0, .ref g), (1, .int (nI f))]) hx hb dX2_inAllCells_24 hl (k := 1) rfl (nI_1 _) (by decide) rfl (fun ls hl => ?_)
      refine lv_goto (tgt := 4) hx hb dX2_inAllCells_27 (by decide) ?_
      exact ih4 (k + 1) _ _ _ (by omega) (lv_sub hl [0, 1, 2, 3] rfl) (hP) hS
  exact hloop4 16 0 _ _ _ (by omega) (lv_sub hl [0, 1, 2, 3] rfl) (hP) hS

set_option maxRecDepth 100000 in
set_option maxHeartbeats 4000000 in
/-- Ground.take -/
theorem c_X2_take (l : Launch) (D : va_G) (cy : Nat → ClassId) (lo n : Nat) (w0 : Nat → va_E) (g : Nat) (M : Mem) (hg1 : lo ≤ g) (hg2 : g + 49 ≤ lo + n) (g2 : Nat) (N : Mem) (hn1 : lo ≤ g2) (hn2 : g2 + 49 ≤ lo + n) (hdis : g2 + 49 ≤ g ∨ g + 49 ≤ g2) (nd : Nat) (hN : GI nd N) : Met l yX2_take wsX2_take ({ frames := 2, cells := 0, slots := 0, locals := 101 }) (PcW D cy lo n (gw cy (gw cy w0 g2 N) g M) [.ref g, .ref g2]) (QvW D lo n (gw cy (gw cy w0 g2 N) g (m_take N M))) 0 0 (fun q : Nat => lo ≤ q) := by
  refine Met.ofW (cc := cX2_take) (maxL := 3) (ret := none) (by decide) rfl ?_
  intro p e s m args below meth c s₁ B hml hv
  obtain ⟨rfl, hP, hK, hS⟩ := x_entry hv
  have hx := B.exec
  have hb := B.bytes
  have hr := B.returns
  have hts := atoms_spec (ws := wsX2_take) B.pre
  have hown : s.vm.findClass RX2 = some m.cls := findClass_of_methodNamed B.named
  have hlocks := B.notSynchronized
  have iX2 : ∀ w ∈ u_ws RX2 TX2 12, w ∈ wsX2_take := by decide +kernel
  have hl := lv_entry ([.ref g, .ref g2]) (n := 3) (Nat.le_of_ble_eq_true rfl)
  rw [lg_entry_eq]
  generalize (lg_sl ([.ref g, .ref g2]) ++ List.replicate (3 - (lg_sl ([.ref g, .ref g2])).length) Slot.unset).toArray = ls at hl ⊢
  have hl : lv_has ls 3 [(0, .ref g), (1, .ref g2)] := hl
  refine lv_iconst (v := 0) hx hb dX2_take_0 (by decide) ?_
  refine lv_istore_n (lv' := [(2, .int (0 : Int32)), (0, .ref g), (1, .ref g2)]) hx hb dX2_take_1 rfl hl (by decide) rfl (fun ls hl => ?_)
  have hloop2 : ∀ (i_r i : Nat) (H : Heap) (locs : List Loc) (ls : Array Slot), i + i_r = 16 → lv_has ls 3 [(2, .int (nI i)), (0, .ref g), (1, .ref g2)] → va_P D vwCl (rl lo n (gw cy (gw cy w0 g2 N) g (fo (fun i M => m_takeC i N M) i M))) H → va_S (fun q : Nat => lo ≤ q) s.heap H locs → W p l e (headSpec wsX2_take ({ frames := 2, cells := 0, slots := 0, locals := 101 })).room s m (([.ref g, .ref g2] : List Value).toArray) below meth c H locs 0 0 (MQ below (QvW D lo n (gw cy (gw cy w0 g2 N) g (m_take N M))) (([.ref g, .ref g2] : List Value).toArray) s 0 0 (fun q : Nat => lo ≤ q)) (F0 m 2 ls []) := by
    intro i_r
    induction i_r with
    | zero =>
      intro i H locs ls hk2 hl hP hS
      obtain rfl : i = 16 := by omega
      refine lv_iload_n hx hb dX2_take_2 rfl (lv_at hl 0 rfl) ?_
      refine lv_bipush (v := 16) hx hb dX2_take_3 (by decide) ?_
      refine lv_icmp_ge (tgt := 29) hx hb dX2_take_5 (by decide) (fun _ => ?_) (fun c => absurd ((br_le (show (16 : Int32) = nI 16 from rfl) (show (nI 16) = nI 16 from rfl) (by omega) (by omega)).mpr (by omega)) c)
      refine lv_iconst (v := 0) hx hb dX2_take_29 (by decide) ?_
      refine lv_istore_n (lv' := [(2, .int (0 : Int32)), (0, .ref g), (1, .ref g2)]) hx hb dX2_take_30 rfl hl (by decide) rfl (fun ls hl => ?_)
      have hloop31 : ∀ (i2_r i2 : Nat) (H : Heap) (locs : List Loc) (ls : Array Slot), i2 + i2_r = 6 → lv_has ls 3 [(2, .int (nI i2)), (0, .ref g), (1, .ref g2)] → va_P D vwCl (rl lo n (gw cy (gw cy w0 g2 N) g (fo (fun i M => m_takeW i N M) i2 (fo (fun i M => m_takeC i N M) 16 M)))) H → va_S (fun q : Nat => lo ≤ q) s.heap H locs → W p l e (headSpec wsX2_take ({ frames := 2, cells := 0, slots := 0, locals := 101 })).room s m (([.ref g, .ref g2] : List Value).toArray) below meth c H locs 0 0 (MQ below (QvW D lo n (gw cy (gw cy w0 g2 N) g (m_take N M))) (([.ref g, .ref g2] : List Value).toArray) s 0 0 (fun q : Nat => lo ≤ q)) (F0 m 31 ls []) := by
        intro i2_r
        induction i2_r with
        | zero =>
          intro i2 H locs ls hk31 hl hP hS
          obtain rfl : i2 = 6 := by omega
          refine lv_iload_n hx hb dX2_take_31 rfl (lv_at hl 0 rfl) ?_
          refine lv_bipush (v := 6) hx hb dX2_take_32 (by decide) ?_
          refine lv_icmp_ge (tgt := 58) hx hb dX2_take_34 (by decide) (fun _ => ?_) (fun c => absurd ((br_le (show (6 : Int32) = nI 6 from rfl) (show (nI 6) = nI 6 from rfl) (by omega) (by omega)).mpr (by omega)) c)
          refine lv_aload_n hx hb dX2_take_58 rfl (lv_at hl 1 rfl) ?_
          refine lv_aload_n hx hb dX2_take_59 rfl (lv_at hl 2 rfl) ?_
          refine x_get (ref := RX2) (C := RX2) (T := TX2) (N := 12) (ci := 2) (v := .int (N 0 2)) hx hb hts iX2 hown hK.1 hP (by omega) (by omega) (((gw_out (by omega)).trans (gw_0))) rfl 2 (by decide) (hts (.fieldLink RX2 46 "PoreField$Ground" "drilled" "I") (by decide +kernel)) (fun _ h9 => h9) rfl dX2_take_60 ?_
          refine x_put (ty := .int) (ref := RX2) (C := RX2) (T := TX2) (N := 12) (ci := 2) (v := .int (N 0 2)) hx hb hts iX2 tyX2 tyX2_ok nmX2 hown hK.1 hP hS (by omega) (by omega) (gw_0) rfl 2 (by decide) (hts (.fieldLink RX2 46 "PoreField$Ground" "drilled" "I") (by decide +kernel)) (fun _ h9 => h9) rfl (by decide +kernel) rfl rfl (Nat.le_of_ble_eq_true rfl) dX2_take_63 (fun H locs hP hS => ?_)
          have hP := gp0 (j := 2) (v := (N 0 2)) hP (rfl)
          refine lv_aload_n hx hb dX2_take_66 rfl (lv_at hl 2 rfl) ?_
          refine x_get (ref := RX2) (C := RX2) (T := TX2) (N := 12) (ci := 2) (v := .ref (g2 + 3)) hx hb hts iX2 hown hK.1 hP (by omega) (by omega) (((gw_out (by omega)).trans (gw_0))) rfl 3 (by decide) (hts (.fieldLink RX2 23 "PoreField$Ground" "capacity" "[I") (by decide +kernel)) (fun _ h9 => h9) rfl dX2_take_67 ?_
          refine lv_iconst (v := 0) hx hb dX2_take_70 (by decide) ?_
          refine lv_aload_n hx hb dX2_take_71 rfl (lv_at hl 1 rfl) ?_
          refine x_get (ref := RX2) (C := RX2) (T := TX2) (N := 12) (ci := 2) (v := .ref (g + 3)) hx hb hts iX2 hown hK.1 hP (by omega) (by omega) (gw_0) rfl 3 (by decide) (hts (.fieldLink RX2 23 "PoreField$Ground" "capacity" "[I") (by decide +kernel)) (fun _ h9 => h9) rfl dX2_take_72 ?_
          refine lv_iconst (v := 0) hx hb dX2_take_75 (by decide) ?_
          refine lv_iconst (v := 3) hx hb dX2_take_76 (by decide) ?_
          refine x_copyi (own := RX2) (k' := 3) hx hb (hml.trans hl.1.symm) hown (hts (.methodLink RX2 49 arraycopyName) (by decide +kernel)) (hts (.native arraycopyName) (by decide +kernel)) (hts (.static arraycopyName) (by decide +kernel)) (hts (.initialized "java/lang/System") (by decide +kernel)) hK.1 hP hS 0 (by omega) (by omega) (by omega) (by omega) (((gw_out (by omega)).trans (gw_row (gRow_3)))) (gw_row (gRow_3)) rfl (by decide) rfl (by omega) (by omega) (Nat.le_of_ble_eq_true rfl) (Nat.le_of_ble_eq_true rfl) dX2_take_77 (fun H locs hP hS => ?_)
          have hP := gpc (k := 3) hP (gRow_3)
          refine lv_aload_n hx hb dX2_take_80 rfl (lv_at hl 1 rfl) ?_
          refine lv_aload_n hx hb dX2_take_81 rfl (lv_at hl 2 rfl) ?_
          refine x_get (ref := RX2) (C := RX2) (T := TX2) (N := 12) (ci := 2) (v := .int (N 0 4)) hx hb hts iX2 hown hK.1 hP (by omega) (by omega) (((gw_out (by omega)).trans (gw_0))) rfl 4 (by decide) (hts (.fieldLink RX2 27 "PoreField$Ground" "permit" "I") (by decide +kernel)) (fun _ h9 => h9) rfl dX2_take_82 ?_
          refine x_put (ty := .int) (ref := RX2) (C := RX2) (T := TX2) (N := 12) (ci := 2) (v := .int (N 0 4)) hx hb hts iX2 tyX2 tyX2_ok nmX2 hown hK.1 hP hS (by omega) (by omega) (gw_0) rfl 4 (by decide) (hts (.fieldLink RX2 27 "PoreField$Ground" "permit" "I") (by decide +kernel)) (fun _ h9 => h9) rfl (by decide +kernel) rfl rfl (Nat.le_of_ble_eq_true rfl) dX2_take_85 (fun H locs hP hS => ?_)
          have hP := gp0 (j := 4) (v := (N 0 4)) hP (rfl)
          refine lv_aload_n hx hb dX2_take_88 rfl (lv_at hl 1 rfl) ?_
          refine lv_aload_n hx hb dX2_take_89 rfl (lv_at hl 2 rfl) ?_
          refine x_get (ref := RX2) (C := RX2) (T := TX2) (N := 12) (ci := 2) (v := .int (N 0 5)) hx hb hts iX2 hown hK.1 hP (by omega) (by omega) (((gw_out (by omega)).trans (gw_0))) rfl 5 (by decide) (hts (.fieldLink RX2 31 "PoreField$Ground" "tankSize" "I") (by decide +kernel)) (fun _ h9 => h9) rfl dX2_take_90 ?_
          refine x_put (ty := .int) (ref := RX2) (C := RX2) (T := TX2) (N := 12) (ci := 2) (v := .int (N 0 5)) hx hb hts iX2 tyX2 tyX2_ok nmX2 hown hK.1 hP hS (by omega) (by omega) (gw_0) rfl 5 (by decide) (hts (.fieldLink RX2 31 "PoreField$Ground" "tankSize" "I") (by decide +kernel)) (fun _ h9 => h9) rfl (by decide +kernel) rfl rfl (Nat.le_of_ble_eq_true rfl) dX2_take_93 (fun H locs hP hS => ?_)
          have hP := gp0 (j := 5) (v := (N 0 5)) hP (rfl)
          refine lv_aload_n hx hb dX2_take_96 rfl (lv_at hl 1 rfl) ?_
          refine lv_aload_n hx hb dX2_take_97 rfl (lv_at hl 2 rfl) ?_
          refine x_get (ref := RX2) (C := RX2) (T := TX2) (N := 12) (ci := 2) (v := .int (N 0 6)) hx hb hts iX2 hown hK.1 hP (by omega) (by omega) (((gw_out (by omega)).trans (gw_0))) rfl 6 (by decide) (hts (.fieldLink RX2 55 "PoreField$Ground" "tankHas" "I") (by decide +kernel)) (fun _ h9 => h9) rfl dX2_take_98 ?_
          refine x_put (ty := .int) (ref := RX2) (C := RX2) (T := TX2) (N := 12) (ci := 2) (v := .int (N 0 6)) hx hb hts iX2 tyX2 tyX2_ok nmX2 hown hK.1 hP hS (by omega) (by omega) (gw_0) rfl 6 (by decide) (hts (.fieldLink RX2 55 "PoreField$Ground" "tankHas" "I") (by decide +kernel)) (fun _ h9 => h9) rfl (by decide +kernel) rfl rfl (Nat.le_of_ble_eq_true rfl) dX2_take_101 (fun H locs hP hS => ?_)
          have hP := gp0 (j := 6) (v := (N 0 6)) hP (rfl)
          exact W.vret hx hb hr (fun tE ht hW => ⟨⟨(), rfl, trivial, x_at ht (hP)⟩, hS.F ht⟩) hS.2.2 dX2_take_104
        | succ i2_r ih31 =>
          intro i2 H locs ls hk31 hl hP hS
          refine lv_iload_n hx hb dX2_take_31 rfl (lv_at hl 0 rfl) ?_
          refine lv_bipush (v := 6) hx hb dX2_take_32 (by decide) ?_
          refine lv_icmp_ge (tgt := 58) hx hb dX2_take_34 (by decide) (fun c => absurd ((br_le (show (6 : Int32) = nI 6 from rfl) (show (nI i2) = nI i2 from rfl) (by omega) (by omega)).mp c) (by omega)) (fun _ => ?_)
          refine lv_aload_n hx hb dX2_take_37 rfl (lv_at hl 1 rfl) ?_
          refine x_get (ref := RX2) (C := RX2) (T := TX2) (N := 12) (ci := 2) (v := .ref (g + 2)) hx hb hts iX2 hown hK.1 hP (by omega) (by omega) (gw_0) rfl 1 (by decide) (hts (.fieldLink RX2 19 "PoreField$Ground" "wells" "[LPoreField$Well;") (by decide +kernel)) (fun _ h9 => h9) rfl dX2_take_38 ?_
          refine lv_iload_n hx hb dX2_take_41 rfl (lv_at hl 0 rfl) ?_
          refine x_aald (b := (g + (37 + 2 * i2))) hx hb hK.1 hP (by omega) (by omega) 2 (gw_2) rfl (cl_of_nI (i := i2) rfl (by omega)) rfl (vp_in_of_nI (i := i2) rfl (by omega) (by omega)) dX2_take_42 ?_
          refine lv_aload_n hx hb dX2_take_43 rfl (lv_at hl 2 rfl) ?_
          refine x_get (ref := RX2) (C := RX2) (T := TX2) (N := 12) (ci := 2) (v := .ref (g2 + 2)) hx hb hts iX2 hown hK.1 hP (by omega) (by omega) (((gw_out (by omega)).trans (gw_0))) rfl 1 (by decide) (hts (.fieldLink RX2 19 "PoreField$Ground" "wells" "[LPoreField$Well;") (by decide +kernel)) (fun _ h9 => h9) rfl dX2_take_44 ?_
          refine lv_iload_n hx hb dX2_take_47 rfl (lv_at hl 0 rfl) ?_
          refine x_aald (b := (g2 + (37 + 2 * i2))) hx hb hK.1 hP (by omega) (by omega) 2 (((gw_out (by omega)).trans (gw_2))) rfl (cl_of_nI (i := i2) rfl (by omega)) rfl (vp_in_of_nI (i := i2) rfl (by omega) (by omega)) dX2_take_48 ?_
          refine x_callv (va_runV (As := [.ref (g2 + (37 + 2 * i2))]) (rest := []) ⟨hx, hb, hml, hown, hts⟩ (c_X4_take l D cy lo n w0 g (fo (fun i M => m_takeW i N M) i2 (fo (fun i M => m_takeC i N M) 16 M)) (by omega) (by omega) g2 N (by omega) (by omega) (by omega) i2 (by omega)) (cwV 1 hts gX2_take_X4_take rfl rfl rfl (by decide +kernel) ⟨Nat.le_of_ble_eq_true rfl, Nat.le_of_ble_eq_true rfl⟩) (preV hP hK (x_recv (ci := 4) (q := (RX4, TX4, 5)) hK.1 hP (by omega) (by omega) rfl (gw_well (by omega)))) rfl rfl hl.1 rfl (lv_room (Nat.le_of_ble_eq_true rfl)) dX2_take_49 ⟨Nat.le_of_ble_eq_true rfl, Nat.le_of_ble_eq_true rfl⟩) hS (fun H locs hP hS => ?_)
          refine lv_iinc (v := (nI (i2 + 1))) (lv' := [(2, .int (nI (i2 + 1))), (0, .ref g), (1, .ref g2)]) hx hb dX2_take_52 hl (k := 0) rfl (nI_1 _) (by decide) rfl (fun ls hl => ?_)
          refine lv_goto (tgt := 31) hx hb dX2_take_55 (by decide) ?_
          exact ih31 (i2 + 1) _ _ _ (by omega) (lv_sub hl [0, 1, 2] rfl) (hP) hS
      exact hloop31 6 0 _ _ _ (by omega) (lv_sub hl [0, 1, 2] rfl) (hP) hS
    | succ i_r ih2 =>
      intro i H locs ls hk2 hl hP hS
      refine lv_iload_n hx hb dX2_take_2 rfl (lv_at hl 0 rfl) ?_
      refine lv_bipush (v := 16) hx hb dX2_take_3 (by decide) ?_
      refine lv_icmp_ge (tgt := 29) hx hb dX2_take_5 (by decide) (fun c => absurd ((br_le (show (16 : Int32) = nI 16 from rfl) (show (nI i) = nI i from rfl) (by omega) (by omega)).mp c) (by omega)) (fun _ => ?_)
      refine lv_aload_n hx hb dX2_take_8 rfl (lv_at hl 1 rfl) ?_
      refine x_get (ref := RX2) (C := RX2) (T := TX2) (N := 12) (ci := 2) (v := .ref (g + 1)) hx hb hts iX2 hown hK.1 hP (by omega) (by omega) (gw_0) rfl 0 (by decide) (hts (.fieldLink RX2 11 "PoreField$Ground" "cells" "[LPoreField$Cell;") (by decide +kernel)) (fun _ h9 => h9) rfl dX2_take_9 ?_
      refine lv_iload_n hx hb dX2_take_12 rfl (lv_at hl 0 rfl) ?_
      refine x_aald (b := (g + (5 + 2 * i))) hx hb hK.1 hP (by omega) (by omega) 1 (gw_1) rfl (cl_of_nI (i := i) rfl (by omega)) rfl (vp_in_of_nI (i := i) rfl (by omega) (by omega)) dX2_take_13 ?_
      refine lv_aload_n hx hb dX2_take_14 rfl (lv_at hl 2 rfl) ?_
      refine x_get (ref := RX2) (C := RX2) (T := TX2) (N := 12) (ci := 2) (v := .ref (g2 + 1)) hx hb hts iX2 hown hK.1 hP (by omega) (by omega) (((gw_out (by omega)).trans (gw_0))) rfl 0 (by decide) (hts (.fieldLink RX2 11 "PoreField$Ground" "cells" "[LPoreField$Cell;") (by decide +kernel)) (fun _ h9 => h9) rfl dX2_take_15 ?_
      refine lv_iload_n hx hb dX2_take_18 rfl (lv_at hl 0 rfl) ?_
      refine x_aald (b := (g2 + (5 + 2 * i))) hx hb hK.1 hP (by omega) (by omega) 1 (((gw_out (by omega)).trans (gw_1))) rfl (cl_of_nI (i := i) rfl (by omega)) rfl (vp_in_of_nI (i := i) rfl (by omega) (by omega)) dX2_take_19 ?_
      refine x_callv (va_runV (As := [.ref (g2 + (5 + 2 * i))]) (rest := []) ⟨hx, hb, hml, hown, hts⟩ (c_X1_take l D cy lo n w0 g (fo (fun i M => m_takeC i N M) i M) (by omega) (by omega) g2 N (by omega) (by omega) (by omega) i (by omega) (hN.sh (by omega))) (cwV 1 hts gX2_take_X1_take rfl rfl rfl (by decide +kernel) ⟨Nat.le_of_ble_eq_true rfl, Nat.le_of_ble_eq_true rfl⟩) (preV hP hK (x_recv (ci := 1) (q := (RX1, TX1, 4)) hK.1 hP (by omega) (by omega) rfl (gw_cell (by omega)))) rfl rfl hl.1 rfl (lv_room (Nat.le_of_ble_eq_true rfl)) dX2_take_20 ⟨Nat.le_of_ble_eq_true rfl, Nat.le_of_ble_eq_true rfl⟩) hS (fun H locs hP hS => ?_)
      refine lv_iinc (v := (nI (i + 1))) (lv' := [(2, .int (nI (i + 1))), (0, .ref g), (1, .ref g2)]) hx hb dX2_take_23 hl (k := 0) rfl (nI_1 _) (by decide) rfl (fun ls hl => ?_)
      refine lv_goto (tgt := 2) hx hb dX2_take_26 (by decide) ?_
      exact ih2 (i + 1) _ _ _ (by omega) (lv_sub hl [0, 1, 2] rfl) (hP) hS
  exact hloop2 16 0 _ _ _ (by omega) (lv_sub hl [0, 1, 2] rfl) (hP) hS
end
