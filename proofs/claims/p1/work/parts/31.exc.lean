/-! what a throw of the class needs: words of the tables that are no good ones, the strings, the two static fields of Throwable -/
section
/-- a word that the tables alone decide, and that a warmed state keeps -/
def mvw (w : Cond) : Bool := match w with | .declares _ => true | .castable _ _ => true | _ => false
theorem mvw.warm {w : Cond} (h : mvw w = true) {s U : State} (hW : s.WarmedH U.vm) (hZ : va_Nw w s) : va_Nw w U := by
  cases w <;> first | exact va_Nw.warmD hW hZ | exact va_Nw.warmC hW hZ | exact absurd h (by decide) | cases h
theorem mvw.tab {w : Cond} (h : mvw w = true) : w.onTables = true := by
  cases w <;> first | rfl | cases h
abbrev IOB : String := "java/lang/IndexOutOfBoundsException"
abbrev IAE : String := "java/lang/IllegalArgumentException"
abbrev XNM : List String := ["java/lang/RuntimeException", "java/lang/Exception"]
def XWD (ic : Nat) (E : String) : List Cond := (vx_atS RX6 ic E XNM).filter (fun w => !goodWord w)
theorem xw_mv1 : ∀ w ∈ XWD 277 IOB, mvw w = true := by decide +kernel
theorem xw_mv2 : ∀ w ∈ XWD 288 IAE, mvw w = true := by decide +kernel
/-- of the tables, for a throw -/
def XK (U : State) : Prop := (∀ w ∈ XWD 277 IOB, va_Nw w U) ∧ (∀ w ∈ XWD 288 IAE, va_Nw w U) ∧ (∃ sa, vk_R RX6 275 "there is none of this number" sa U) ∧ (∃ sa, vk_R RX6 282 "there is no cell beside it there" sa U) ∧ (∃ sa, vk_R RX6 286 "a number is out of its bounds" sa U)
theorem XK.warm {s U : State} (h : XK s) (hW : s.WarmedH U.vm) : XK U :=
  ⟨fun w hw => (xw_mv1 w hw |> mvw.warm) hW (h.1 w hw), fun w hw => (xw_mv2 w hw |> mvw.warm) hW (h.2.1 w hw), h.2.2.1.imp fun _ q => vk_R.warm hW q, h.2.2.2.1.imp fun _ q => vk_R.warm hW q, h.2.2.2.2.imp fun _ q => vk_R.warm hW q⟩
theorem XK.same {u U : State} (hv : u.vm = U.vm) (h : XK u) : XK U :=
  ⟨fun w hw => va_Nw.same (mvw.tab (xw_mv1 w hw)) hv (h.1 w hw), fun w hw => va_Nw.same (mvw.tab (xw_mv2 w hw)) hv (h.2.1 w hw), h.2.2.1.imp fun _ q => vk_R.same hv.symm q, h.2.2.2.1.imp fun _ q => vk_R.same hv.symm q, h.2.2.2.2.imp fun _ q => vk_R.same hv.symm q⟩
/-- the two static fields of Throwable, in H -/
def ZQ (A : Nat → Prop) (U : State) (H : Heap) : Prop := vx_Zq Bundle.tN "UNASSIGNED_STACK" Bundle.steD A U H ∧ vx_Zq Bundle.tN "SUPPRESSED_SENTINEL" Bundle.listD A U H
theorem ZQ.moved {A : Nat → Prop} {u U : State} {H : Heap} (hvm : u.vm.Alike U.vm) (h : ZQ A u H) : ZQ A U H := ⟨vx_Zq.moved hvm h.1, vx_Zq.moved hvm h.2⟩
theorem ZQ.kept {A : Nat → Prop} {U : State} {H H1 : Heap} (h : ZQ A U H) (hq : ∀ a : Nat, a < H.size → ¬ A a → H1[a]? = H[a]?) : ZQ A U H1 := ⟨vx_Zq.kept h.1 hq, vx_Zq.kept h.2 hq⟩
end
section
variable {p : Program} {l : Launch} {e : Env} {R : Room} {s : State} {m : MethodId} {args : Array Value} {below : List Frame} {meth : Method} {c : Code} {H : Heap} {locs : List Loc} {cells slots : Nat} {Q : State → Prop}
variable {pc : Nat} {ls : Array Slot} {rest st0 : List Value} {a : Array Value} {D : va_G} {cy : Nat → ClassId} {H0 : Heap} {lo n mc ms : Nat} {w : Nat → va_E}
/-- a start, where the method may throw -/
def PcX (D : va_G) (cy : Nat → ClassId) (lo n : Nat) (w : Nat → va_E) (av : List Value) : Array Value → State → Prop := va_Pc av (fun U => va_P D vwCl (rl lo n w) U.heap ∧ KK D cy U ∧ XK U ∧ ZQ (fun q : Nat => lo ≤ q) U U.heap)
/-- what is so where it has thrown E: the run of cells is as it was -/
abbrev XCE (D : va_G) (lo n : Nat) (w : Nat → va_E) (X : String) : String → State → State → Prop := vx_X (fun (_ : Unit) => True) (fun E _ t => E = X ∧ va_P D vwCl (rl lo n w) t.heap) (fun q : Nat => lo ≤ q)
abbrev QNv (D : va_G) (lo n : Nat) : Array Value → State → Outcome → State → Prop := QvX D lo n (fun _ => False)
abbrev QNi (D : va_G) (lo n : Nat) : Array Value → State → Outcome → State → Prop := QxT D lo n (fun _ _ => False)
theorem PcX.blind {av : List Value} : FrameBlind (PcX D cy lo n w av) := fun _ U g mk q => ⟨q.1, q.2.1, KK.same (u := U) (by rfl) q.2.2.1, XK.same (u := U) (by rfl) q.2.2.2.1, ZQ.moved (u := U) (Vm.Alike.refl U.vm) q.2.2.2.2⟩
theorem preVX {C : String} {b : Nat} {As : List Value} (hP : va_P D vwCl (rl lo n w) H) (hK : KK D cy s) (hX : XK s) (hZ : ZQ (fun q : Nat => lo ≤ q) s s.heap) (hS : va_S (fun q : Nat => lo ≤ q) s.heap H locs) (hr : ∃ cell : Cell, H[b]? = some cell ∧ cell.vm.isStatics = false ∧ s.vm.findClass C = some cell.cls) : PreV s H C b (PcX D cy lo n w (.ref b :: As)) As :=
  ⟨PcX.blind, hr, fun U hU hW => ⟨rfl, by rw [hU]; exact hP, hK.warm hW, hX.warm hW, by rw [hU]; exact (hZ.kept hS.2.1).moved hW.alike⟩⟩
theorem preSX {As : List Value} (hP : va_P D vwCl (rl lo n w) H) (hK : KK D cy s) (hX : XK s) (hZ : ZQ (fun q : Nat => lo ≤ q) s s.heap) (hS : va_S (fun q : Nat => lo ≤ q) s.heap H locs) : PreS s H (PcX D cy lo n w As) As :=
  ⟨PcX.blind, fun U hU hW => ⟨rfl, by rw [hU]; exact hP, hK.warm hW, hX.warm hW, by rw [hU]; exact (hZ.kept hS.2.1).moved hW.alike⟩⟩
theorem X_entry {av : List Value} (hv : PcX D cy lo n w av args s) : args = av.toArray ∧ va_P D vwCl (rl lo n w) s.heap ∧ KK D cy s ∧ XK s ∧ ZQ (fun q : Nat => lo ≤ q) s s.heap ∧ va_S (fun q : Nat => lo ≤ q) s.heap s.heap [] := ⟨hv.1, hv.2.1, hv.2.2.1, hv.2.2.2.1, hv.2.2.2.2, va_S.rf⟩
end
section
variable {p : Program} {l : Launch} {e : Env} {R : Room} {s : State} {m : MethodId} {args : Array Value} {below : List Frame} {meth : Method} {c : Code} {H : Heap} {locs : List Loc} {cells slots : Nat} {Q : State → Prop}
variable {cc : ByteArray} {pc : Nat} {ls : Array Slot} {rest st0 : List Value} {a : Array Value} {D : va_G} {cy : Nat → ClassId} {H0 : Heap} {lo n n' mc ms mc' ms' : Nat} {w : Nat → va_E} {X : String} {Qc : Array Value → State → Outcome → State → Prop}
/-- a call that throws: it goes on to the caller -/
theorem x_xcallv (hr : vx_Run p l e R s m args below meth c H locs cells slots mc ms (F0 m pc ls st0) rest (QNv D lo n a) (XCE D lo n w X) (fun q : Nat => lo ≤ q)) (hS : va_S (fun q : Nat => lo ≤ q) s.heap H locs) (ht : ∀ x ∈ c.exceptionTable.toList, False) (hlocks : meth.locks = false) (hc : cells + mc ≤ mc') (hs : slots + ms ≤ ms') :
    W p l e R s m args below meth c H locs cells slots (vx_MQ below Qc (XCE D lo n w X) args s mc' ms' (fun q : Nat => lo ≤ q)) (F0 m pc ls st0) :=
  vx_callv hr hS (fun _ _ h => h) (fun _ h => h) (fun _ _ h => h)
    (fun E ce q9 u t H1 locs1 ht1 hal _ hB _ _ hS1 hc9 hv9 hcl9 => vx_out (fun x hx9 => (ht x hx9).elim) hlocks hc9 hv9 hcl9 (fun t' ht' _ => ⟨(), trivial, ⟨hB.1, by rw [ht', ← ht1]; exact hB.2⟩, hS1.F ht'⟩) hS1.2.2 hc hs)
    (fun u t H1 locs1 _ _ hf9 _ _ _ _ => hf9.elim)
theorem x_xcalli (hr : vx_Run p l e R s m args below meth c H locs cells slots mc ms (F0 m pc ls st0) rest (QNi D lo n a) (XCE D lo n w X) (fun q : Nat => lo ≤ q)) (hS : va_S (fun q : Nat => lo ≤ q) s.heap H locs) (ht : ∀ x ∈ c.exceptionTable.toList, False) (hlocks : meth.locks = false) (hc : cells + mc ≤ mc') (hs : slots + ms ≤ ms') :
    W p l e R s m args below meth c H locs cells slots (vx_MQ below Qc (XCE D lo n w X) args s mc' ms' (fun q : Nat => lo ≤ q)) (F0 m pc ls st0) :=
  vx_calli hr hS (fun _ _ h => h) (fun _ h => h) (fun _ _ h => h)
    (fun E ce q9 u t H1 locs1 ht1 hal _ hB _ _ hS1 hc9 hv9 hcl9 => vx_out (fun x hx9 => (ht x hx9).elim) hlocks hc9 hv9 hcl9 (fun t' ht' _ => ⟨(), trivial, ⟨hB.1, by rw [ht', ← ht1]; exact hB.2⟩, hS1.F ht'⟩) hS1.2.2 hc hs)
    (fun _ u t H1 locs1 _ _ hf9 _ _ _ _ => hf9.elim)
/-- the throw itself -/
theorem x_throw (hexec : p.tables.exec = Jvm.exec) (hb : c.code = cc) (hl : l.stackTraces = false) {cls text : String} {ik is ic sa : Nat}
    (hown : s.vm.findClass RX6 = some m.cls) (hcls : Bundle.fit cls = true)
    (hk : (Cond.classLink RX6 ik cls).before args s = true) (hini : (Cond.initialized cls).before args s = true) (hstr : vk_R RX6 is text sa s) (hgw : ∀ w ∈ (vx_atS RX6 ic cls XNM).filter goodWord, w.before args s = true) (hmv : ∀ w ∈ XWD ic cls, mvw w = true) (hnw : ∀ w ∈ XWD ic cls, va_Nw w s)
    (hgood : ∀ w ∈ Cond.classLink RX6 ik cls :: Cond.initialized cls :: vx_atS RX6 ic cls XNM, vx_ot w = true)
    (hZ : ZQ (fun q : Nat => lo ≤ q) s s.heap) (hP : va_P D vwCl (rl lo n w) H) (hS : va_S (fun q : Nat => lo ≤ q) s.heap H locs) (hsize : ls.size = c.maxLocals)
    (d0 : decode cc pc = .ok (.new ik, 3)) (d3 : decode cc (pc + 3) = .ok (.dup, 1)) (d4 : decode cc (pc + 4) = .ok (.ldc_w is, 3)) (d7 : decode cc (pc + 7) = .ok (.invokespecial ic, 3)) (d10 : decode cc (pc + 10) = .ok (.athrow, 1))
    (ht : ∀ x ∈ c.exceptionTable.toList, False) (hlocks : meth.locks = false)
    (hRframes : XNM.length + 3 < R.frames) (hRlocals : (rest.map fun v => v.category).sum + (13 * (XNM.length + 1) + 43) ≤ R.locals) (hRcells : cells + 1 ≤ R.cells) (hRslots : slots + 6 ≤ R.slots) (hc : cells + 1 ≤ mc) (hs : slots + 6 ≤ ms) :
    W p l e R s m args below meth c H locs cells slots (vx_MQ below Qc (XCE D lo n w cls) args s mc ms (fun q : Nat => lo ≤ q)) (F0 m pc ls rest) :=
  vx_throwSW hexec hb hl hown hcls (by decide +kernel) hk hini hstr (vx_hat hgw (fun _ h => h) (fun w hw => va_Nw.use (mvw.tab (hmv w hw)) (hnw w hw))) hgood hZ.1 hZ.2 hS hsize d0 d3 d4 d7 d10 (fun x hx => (ht x hx).elim) hRframes hRlocals hRcells hRslots hlocks
    (fun t _ h1 h2 => ⟨(), trivial, ⟨rfl, hP.kept (fun k x hx => h2 x.1 (hP k x hx).lt)⟩, Nat.le_trans hS.1 h1, fun q g1 g2 => (h2 q (Nat.lt_of_lt_of_le g1 hS.1)).trans (hS.2.1 q g1 g2)⟩) hS.2.2 hc hs
end
