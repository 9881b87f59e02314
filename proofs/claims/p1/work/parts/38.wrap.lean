/-! the law's own methods around the class's: what was thrown is told by a number -/
section
variable {p : Program} {l : Launch} {e : Env} {R : Room} {s : State} {m : MethodId} {args : Array Value} {below : List Frame} {meth : Method} {c : Code} {H : Heap} {locs : List Loc} {cells slots : Nat} {Q : State → Prop}
variable {pc : Nat} {ls : Array Slot} {rest st0 : List Value} {a : Array Value} {D : va_G} {cy : Nat → ClassId} {H0 : Heap} {lo n mc ms : Nat} {w : Nat → va_E} {X : String}
def YK (U : State) : Prop := va_Nw (.castable IOB IOB) U ∧ va_Nw (.castable IAE IAE) U ∧ va_Nc IAE IOB U
theorem YK.warm {s U : State} (h : YK s) (hW : s.WarmedH U.vm) : YK U := ⟨va_Nw.warmC hW h.1, va_Nw.warmC hW h.2.1, va_Nc.moved hW.alike h.2.2⟩
theorem YK.same {u U : State} (hv : u.vm = U.vm) (h : YK u) : YK U := ⟨va_Nw.same rfl hv h.1, va_Nw.same rfl hv h.2.1, va_Nc.moved (by rw [hv]; exact Vm.Alike.refl U.vm) h.2.2⟩
def PcY (D : va_G) (cy : Nat → ClassId) (lo n : Nat) (w : Nat → va_E) (av : List Value) : Array Value → State → Prop := va_Pc av (fun U => U.heap.size = lo + n ∧ va_P D vwCl (rl lo n w) U.heap ∧ KK D cy U ∧ XK U ∧ ZQ (fun q : Nat => lo ≤ q) U U.heap ∧ YK U)
theorem PcY.blind {av : List Value} : FrameBlind (PcY D cy lo n w av) := fun _ U g mk q => ⟨q.1, q.2.1, q.2.2.1, KK.same (u := U) (by rfl) q.2.2.2.1, XK.same (u := U) (by rfl) q.2.2.2.2.1, ZQ.moved (u := U) (Vm.Alike.refl U.vm) q.2.2.2.2.2.1, YK.same (u := U) (by rfl) q.2.2.2.2.2.2⟩
theorem preSY {As : List Value} (hz : H.size = lo + n) (hP : va_P D vwCl (rl lo n w) H) (hK : KK D cy s) (hX : XK s) (hZ : ZQ (fun q : Nat => lo ≤ q) s H) (hY : YK s) : PreS s H (PcY D cy lo n w As) As :=
  ⟨PcY.blind, fun U hU hW => ⟨rfl, by rw [hU]; exact hz, by rw [hU]; exact hP, hK.warm hW, hX.warm hW, by rw [hU]; exact hZ.moved hW.alike, hY.warm hW⟩⟩
theorem Y_entry {av : List Value} (hv : PcY D cy lo n w av args s) : args = av.toArray ∧ s.heap.size = lo + n ∧ va_P D vwCl (rl lo n w) s.heap ∧ KK D cy s ∧ XK s ∧ ZQ (fun q : Nat => lo ≤ q) s s.heap ∧ YK s ∧ va_S (fun q : Nat => lo ≤ q) s.heap s.heap [] := ⟨hv.1, hv.2.1, hv.2.2.1, hv.2.2.2.1, hv.2.2.2.2.1, hv.2.2.2.2.2.1, hv.2.2.2.2.2.2, va_S.rf⟩
/-- its number, and (none thrown) the answer in the array at t; the class's object lies at o -/
abbrev QY (D : va_G) (cy : Nat → ClassId) (lo n o t : Nat) (w : Nat → va_E) (S : Int32 × Int32) : Array Value → State → Outcome → State → Prop := va_Qi (fun (r : Int32) (u : Nat → va_E) => r = S.1 ∧ (∃ f : Nat → Int64, u t = .inl (cy 7, 1, .inr (.inl f)) ∧ (S.1 = 0 → f 0 = S.2.toInt64)) ∧ ∀ a, (a < o ∨ o + 118 ≤ a) → a ≠ t → u a = w a) (fun u tE => va_P D vwCl (rl lo n u) tE.heap ∧ (S.1 = 0 → tE.heap.size = lo + n)) (fun q : Nat => lo ≤ q)
/-- a call that throws, caught here -/
theorem y_catch {own nm : String} (hr : vx_Run p l e R s m args below meth c H locs cells slots mc ms (F0 m pc ls st0) rest (QNi D lo n a) (XCE D lo n w X) (fun q : Nat => lo ≤ q)) (hS : va_S (fun q : Nat => lo ≤ q) s.heap H locs) (hown : s.vm.findClass own = some m.cls) (pre : List ExceptionTableEntry) (x : ExceptionTableEntry) (suf : List ExceptionTableEntry) (hsplit : c.exceptionTable.toList = pre ++ x :: suf)
    (hpass : ∀ z ∈ pre, covers z pc = false ∨ (z.catchType ≠ 0 ∧ ∃ nm : String, (Cond.classLink own z.catchType nm).before args s = true ∧ va_Nc X nm s)) (hx : covers x pc = true) (h0 : x.catchType ≠ 0) (hlink : (Cond.classLink own x.catchType nm).before args s = true) (hcast : (Cond.castable X nm).before args s = true)
    (kk : ∀ (q9 : Nat) (H1 : Heap) (locs1 : List Loc), va_P D vwCl (rl lo n w) H1 → va_S (fun q : Nat => lo ≤ q) s.heap H1 locs1 → W p l e R s m args below meth c H1 locs1 (cells + mc) (slots + ms) Q (F0 m x.handlerPc ls [.ref q9])) : W p l e R s m args below meth c H locs cells slots Q (F0 m pc ls st0) :=
  vx_calli hr hS (fun _ _ h => h) (fun _ h => h) (fun _ _ h => h)
    (fun E ce q9 u t H1 locs1 ht1 _ _ hB _ _ hS1 hc9 hv9 hcl9 => by
      obtain ⟨rfl, hB2⟩ := hB
      exact vx_catch hown pre x suf hsplit hpass hx h0 hlink hcast hc9 hv9 hcl9 (kk q9 H1 locs1 (by rw [← ht1]; exact hB2) hS1))
    (fun _ u t H1 locs1 _ _ hf9 _ _ _ _ => hf9.elim)
end
set_option maxRecDepth 100000 in
set_option maxHeartbeats 1000000 in
theorem c_L_price (l : Launch) (hfl : l.stackTraces = false) (D : va_G) (cy : Nat → ClassId) (lo n : Nat) (w : Nat → va_E) (o t : Nat) (ho1 : lo ≤ o) (ho2 : o + 118 ≤ lo + n) (ht1 : lo ≤ t) (ht2 : t < lo + n) (hto : t < o ∨ o + 118 ≤ t) (f0 : Nat → Int64) (ht0 : w t = .inl (cy 7, 1, .inr (.inl f0))) (x : Int32) : Met l yL_price wsL_price ({ frames := 8, cells := 1, slots := 6, locals := 134 }) (PcY D cy lo n (gw cy (gw cy (hw cy w o P0) (o + 50) G0) (o + 1) G0) [.ref o, .int x, .ref t]) (QY D cy lo n o t w (r_price x)) 1 6 (fun q : Nat => lo ≤ q) := by
  refine va_MetW (cc := cL_price) (maxL := 4) (ret := (some .int)) (hh := [(0, 9, 12, 15)]) (by decide) rfl ?_
  intro p e s m args below meth c s₁ B hml hv
  obtain ⟨rfl, hsz, hP, hK, hX, hZ, hY, hS⟩ := Y_entry hv
  have hx := B.exec
  have hb := B.bytes
  have hr := B.returns
  have hts := atoms_spec (ws := wsL_price) B.pre
  have hown : s.vm.findClass RL = some m.cls := findClass_of_methodNamed B.named
  have hlocks := B.notSynchronized
  have htab : c.exceptionTable.toList = tableOf [(0, 9, 12, 15)] := vx_table (x := yL_price) B (hts (.codeWith yL_price cL_price 4 (some .int) [(0, 9, 12, 15)]) (by exact List.mem_cons_self))
  have ht6 : (gw cy (gw cy (hw cy w o P0) (o + 50) G0) (o + 1) G0) t = .inl (cy 7, 1, .inr (.inl f0)) := (gw_out (by omega)).trans ((gw_out (by omega)).trans ((hw_out (by omega)).trans ht0))
  have hl := lv_entry ([.ref o, .int x, .ref t]) (n := 4) (Nat.le_of_ble_eq_true rfl)
  rw [lg_entry_eq]
  generalize (lg_sl ([.ref o, .int x, .ref t]) ++ List.replicate (4 - (lg_sl ([.ref o, .int x, .ref t])).length) Slot.unset).toArray = ls at hl ⊢
  have hl : lv_has ls 4 [(0, .ref o), (1, .int x), (2, .ref t)] := hl
  refine lv_aload_n hx hb dL_price_0 rfl (lv_at hl 2 rfl) ?_
  refine lv_iconst (v := 0) hx hb dL_price_1 (by decide) ?_
  refine lv_aload_n hx hb dL_price_2 rfl (lv_at hl 0 rfl) ?_
  refine lv_iload_n hx hb dL_price_3 rfl (lv_at hl 1 rfl) ?_
  by_cases g0 : (0 ≤ x ∧ x ≤ 99)
  · refine x_calli (va_runV (As := [.int x]) (rest := [.int (0 : Int32), .ref t]) ⟨hx, hb, hml, hown, hts⟩ (c_X6_price l D cy lo n w o G0 G0 P0 (by omega) (by omega) x g0.1 g0.2) (cwV 1 hts gL_price_X6_price rfl rfl rfl (by decide +kernel) ⟨Nat.le_of_ble_eq_true rfl, Nat.le_of_ble_eq_true rfl⟩) (preV hP hK (x_recv (ci := 6) (q := (RX6, TX6, 11)) hK.1 hP (by omega) (by omega) rfl pwx_0)) rfl rfl hl.1 rfl (lv_room (Nat.le_of_ble_eq_true rfl)) dL_price_4 ⟨Nat.le_of_ble_eq_true rfl, Nat.le_of_ble_eq_true rfl⟩) hS (fun H locs hP hS => ?_)
    refine x_gen hP (fun v1 e1 hP => ?_)
    have h_out : v1 t = .inl (cy 7, 1, .inr (.inl f0)) := by rw [e1]; exact (gw_out (by omega)).trans ((gw_out (by omega)).trans ((hw_out (by omega)).trans ht0))
    have hfo : ∀ a, (a < o ∨ o + 118 ≤ a) → v1 a = w a := fun a ha => by rw [e1]; exact (gw_out (by omega)).trans ((gw_out (by omega)).trans (hw_out (by omega)))
    refine x_top (v' := (5 : Int32)) rfl ?_
    refine lv_i2l hx hb dL_price_7 rfl ?_
    refine x_topl (v' := 5) (by decide +kernel) ?_
    refine x_last hx hb hK.1 hP hS (by omega) (by omega) 7 h_out rfl (cl_of_nI (i := 0) rfl (by omega)) (vp_in_of_nI (i := 0) rfl (by omega) (by omega)) dL_price_8 (fun H locs hP hS => ?_)
    refine lv_goto (tgt := 15) hx hb dL_price_9 (by decide) ?_
    refine lv_iconst (v := 0) hx hb dL_price_15 (by decide) ?_
    have eS : r_price x = (0, 5) := by unfold r_price; rw [if_pos g0]
    refine x_szn (by omega) (by omega) hP (fun hzH => ?_)
    refine W.widen (k := 1) (n := 6) (by omega) (by omega) ?_
    exact W.iret (v := (0 : Int32)) hx hb hr (fun tE ht hW => ⟨⟨(0 : Int32), (va_up v1 t (.inl (cy 7, 1, .inr (.inl (vp_updL f0 0 (5 : Int64)))))), rfl, ⟨by rw [eS], ⟨_, xu_same _ _ _, fun _ => by rw [eS]; first | rfl | (simp [vp_updL]; done) | (simp [vp_updL]; decide)⟩, fun a h8 h9 => (xu_ne h9).trans (hfo a h8)⟩, x_at ht hP, fun _ => by rw [ht]; exact hzH⟩, hS.F ht⟩) hS.2.2 dL_price_16
  · refine y_catch (vx_runV (As := [.int x]) (rest := [.int (0 : Int32), .ref t]) ⟨hx, hb, hml, hown, hts⟩ (c_X6_price_x1 l hfl D cy lo n w o G0 G0 P0 (by omega) (by omega) rfl x g0) (cwV 1 hts gL_price_X6_price rfl rfl rfl (by decide +kernel) ⟨Nat.le_of_ble_eq_true rfl, Nat.le_of_ble_eq_true rfl⟩) (preVX hP hK hX hZ hS (x_recv (ci := 6) (q := (RX6, TX6, 11)) hK.1 hP (by omega) (by omega) rfl pwx_0)) rfl rfl hl.1 rfl (lv_room (Nat.le_of_ble_eq_true rfl)) dL_price_4 ⟨Nat.le_of_ble_eq_true rfl, Nat.le_of_ble_eq_true rfl⟩) hS hown [] ⟨0, 9, 12, 15⟩ [] (by rw [htab]; rfl) (fun z hz => nomatch hz) (by decide) (by decide) (hts (.classLink RL 15 IAE) (by decide +kernel)) (va_Nw.use rfl hY.2.1) (fun q9 H locs hP hS => ?_)
    refine lv_astore_n (lv' := [(3, .ref q9), (0, .ref o), (1, .int x), (2, .ref t)]) hx hb dL_price_12 rfl hl (by decide) rfl (fun ls hl => ?_)
    refine lv_iconst (v := 1) hx hb dL_price_13 (by decide) ?_
    have eS : r_price x = (1, 0) := by unfold r_price; rw [if_neg g0]
    exact W.iret (v := (1 : Int32)) hx hb hr (fun tE ht hW => ⟨⟨(1 : Int32), (gw cy (gw cy (hw cy w o P0) (o + 50) G0) (o + 1) G0), rfl, ⟨by rw [eS], ⟨f0, ht6, fun h0 => absurd h0 (by rw [eS]; decide)⟩, fun a h8 h9 => (gw_out (by omega)).trans ((gw_out (by omega)).trans (hw_out (by omega)))⟩, x_at ht hP, fun h0 => absurd h0 (by rw [eS]; decide)⟩, hS.F ht⟩) hS.2.2 dL_price_14

set_option maxRecDepth 100000 in
set_option maxHeartbeats 1000000 in
theorem c_L_permit (l : Launch) (hfl : l.stackTraces = false) (D : va_G) (cy : Nat → ClassId) (lo n : Nat) (w : Nat → va_E) (o t : Nat) (ho1 : lo ≤ o) (ho2 : o + 118 ≤ lo + n) (ht1 : lo ≤ t) (ht2 : t < lo + n) (hto : t < o ∨ o + 118 ≤ t) (f0 : Nat → Int64) (ht0 : w t = .inl (cy 7, 1, .inr (.inl f0))) (x : Int32) : Met l yL_permit wsL_permit ({ frames := 8, cells := 1, slots := 6, locals := 134 }) (PcY D cy lo n (gw cy (gw cy (hw cy w o P0) (o + 50) G0) (o + 1) G0) [.ref o, .int x, .ref t]) (QY D cy lo n o t w (r_permit x)) 1 6 (fun q : Nat => lo ≤ q) := by
  refine va_MetW (cc := cL_permit) (maxL := 4) (ret := (some .int)) (hh := [(0, 9, 12, 15)]) (by decide) rfl ?_
  intro p e s m args below meth c s₁ B hml hv
  obtain ⟨rfl, hsz, hP, hK, hX, hZ, hY, hS⟩ := Y_entry hv
  have hx := B.exec
  have hb := B.bytes
  have hr := B.returns
  have hts := atoms_spec (ws := wsL_permit) B.pre
  have hown : s.vm.findClass RL = some m.cls := findClass_of_methodNamed B.named
  have hlocks := B.notSynchronized
  have htab : c.exceptionTable.toList = tableOf [(0, 9, 12, 15)] := vx_table (x := yL_permit) B (hts (.codeWith yL_permit cL_permit 4 (some .int) [(0, 9, 12, 15)]) (by exact List.mem_cons_self))
  have ht6 : (gw cy (gw cy (hw cy w o P0) (o + 50) G0) (o + 1) G0) t = .inl (cy 7, 1, .inr (.inl f0)) := (gw_out (by omega)).trans ((gw_out (by omega)).trans ((hw_out (by omega)).trans ht0))
  have hl := lv_entry ([.ref o, .int x, .ref t]) (n := 4) (Nat.le_of_ble_eq_true rfl)
  rw [lg_entry_eq]
  generalize (lg_sl ([.ref o, .int x, .ref t]) ++ List.replicate (4 - (lg_sl ([.ref o, .int x, .ref t])).length) Slot.unset).toArray = ls at hl ⊢
  have hl : lv_has ls 4 [(0, .ref o), (1, .int x), (2, .ref t)] := hl
  refine lv_aload_n hx hb dL_permit_0 rfl (lv_at hl 2 rfl) ?_
  refine lv_iconst (v := 0) hx hb dL_permit_1 (by decide) ?_
  refine lv_aload_n hx hb dL_permit_2 rfl (lv_at hl 0 rfl) ?_
  refine lv_iload_n hx hb dL_permit_3 rfl (lv_at hl 1 rfl) ?_
  by_cases g0 : (0 ≤ x ∧ x ≤ 99)
  · refine x_calli (va_runV (As := [.int x]) (rest := [.int (0 : Int32), .ref t]) ⟨hx, hb, hml, hown, hts⟩ (c_X6_permit l D cy lo n w o G0 G0 P0 (by omega) (by omega) x g0.1 g0.2) (cwV 1 hts gL_permit_X6_permit rfl rfl rfl (by decide +kernel) ⟨Nat.le_of_ble_eq_true rfl, Nat.le_of_ble_eq_true rfl⟩) (preV hP hK (x_recv (ci := 6) (q := (RX6, TX6, 11)) hK.1 hP (by omega) (by omega) rfl pwx_0)) rfl rfl hl.1 rfl (lv_room (Nat.le_of_ble_eq_true rfl)) dL_permit_4 ⟨Nat.le_of_ble_eq_true rfl, Nat.le_of_ble_eq_true rfl⟩) hS (fun H locs hP hS => ?_)
    refine x_gen hP (fun v1 e1 hP => ?_)
    have h_out : v1 t = .inl (cy 7, 1, .inr (.inl f0)) := by rw [e1]; exact (gw_out (by omega)).trans ((gw_out (by omega)).trans ((hw_out (by omega)).trans ht0))
    have hfo : ∀ a, (a < o ∨ o + 118 ≤ a) → v1 a = w a := fun a ha => by rw [e1]; exact (gw_out (by omega)).trans ((gw_out (by omega)).trans (hw_out (by omega)))
    refine x_top (v' := (10 : Int32)) rfl ?_
    refine lv_i2l hx hb dL_permit_7 rfl ?_
    refine x_topl (v' := 10) (by decide +kernel) ?_
    refine x_last hx hb hK.1 hP hS (by omega) (by omega) 7 h_out rfl (cl_of_nI (i := 0) rfl (by omega)) (vp_in_of_nI (i := 0) rfl (by omega) (by omega)) dL_permit_8 (fun H locs hP hS => ?_)
    refine lv_goto (tgt := 15) hx hb dL_permit_9 (by decide) ?_
    refine lv_iconst (v := 0) hx hb dL_permit_15 (by decide) ?_
    have eS : r_permit x = (0, 10) := by unfold r_permit; rw [if_pos g0]
    refine x_szn (by omega) (by omega) hP (fun hzH => ?_)
    refine W.widen (k := 1) (n := 6) (by omega) (by omega) ?_
    exact W.iret (v := (0 : Int32)) hx hb hr (fun tE ht hW => ⟨⟨(0 : Int32), (va_up v1 t (.inl (cy 7, 1, .inr (.inl (vp_updL f0 0 (10 : Int64)))))), rfl, ⟨by rw [eS], ⟨_, xu_same _ _ _, fun _ => by rw [eS]; first | rfl | (simp [vp_updL]; done) | (simp [vp_updL]; decide)⟩, fun a h8 h9 => (xu_ne h9).trans (hfo a h8)⟩, x_at ht hP, fun _ => by rw [ht]; exact hzH⟩, hS.F ht⟩) hS.2.2 dL_permit_16
  · refine y_catch (vx_runV (As := [.int x]) (rest := [.int (0 : Int32), .ref t]) ⟨hx, hb, hml, hown, hts⟩ (c_X6_permit_x1 l hfl D cy lo n w o G0 G0 P0 (by omega) (by omega) rfl x g0) (cwV 1 hts gL_permit_X6_permit rfl rfl rfl (by decide +kernel) ⟨Nat.le_of_ble_eq_true rfl, Nat.le_of_ble_eq_true rfl⟩) (preVX hP hK hX hZ hS (x_recv (ci := 6) (q := (RX6, TX6, 11)) hK.1 hP (by omega) (by omega) rfl pwx_0)) rfl rfl hl.1 rfl (lv_room (Nat.le_of_ble_eq_true rfl)) dL_permit_4 ⟨Nat.le_of_ble_eq_true rfl, Nat.le_of_ble_eq_true rfl⟩) hS hown [] ⟨0, 9, 12, 15⟩ [] (by rw [htab]; rfl) (fun z hz => nomatch hz) (by decide) (by decide) (hts (.classLink RL 15 IAE) (by decide +kernel)) (va_Nw.use rfl hY.2.1) (fun q9 H locs hP hS => ?_)
    refine lv_astore_n (lv' := [(3, .ref q9), (0, .ref o), (1, .int x), (2, .ref t)]) hx hb dL_permit_12 rfl hl (by decide) rfl (fun ls hl => ?_)
    refine lv_iconst (v := 1) hx hb dL_permit_13 (by decide) ?_
    have eS : r_permit x = (1, 0) := by unfold r_permit; rw [if_neg g0]
    exact W.iret (v := (1 : Int32)) hx hb hr (fun tE ht hW => ⟨⟨(1 : Int32), (gw cy (gw cy (hw cy w o P0) (o + 50) G0) (o + 1) G0), rfl, ⟨by rw [eS], ⟨f0, ht6, fun h0 => absurd h0 (by rw [eS]; decide)⟩, fun a h8 h9 => (gw_out (by omega)).trans ((gw_out (by omega)).trans (hw_out (by omega)))⟩, x_at ht hP, fun h0 => absurd h0 (by rw [eS]; decide)⟩, hS.F ht⟩) hS.2.2 dL_permit_14

set_option maxRecDepth 100000 in
set_option maxHeartbeats 1000000 in
theorem c_L_tank (l : Launch) (hfl : l.stackTraces = false) (D : va_G) (cy : Nat → ClassId) (lo n : Nat) (w : Nat → va_E) (o t : Nat) (ho1 : lo ≤ o) (ho2 : o + 118 ≤ lo + n) (ht1 : lo ≤ t) (ht2 : t < lo + n) (hto : t < o ∨ o + 118 ≤ t) (f0 : Nat → Int64) (ht0 : w t = .inl (cy 7, 1, .inr (.inl f0))) (x : Int32) : Met l yL_tank wsL_tank ({ frames := 8, cells := 1, slots := 6, locals := 133 }) (PcY D cy lo n (gw cy (gw cy (hw cy w o P0) (o + 50) G0) (o + 1) G0) [.ref o, .int x, .ref t]) (QY D cy lo n o t w (r_tank x)) 1 6 (fun q : Nat => lo ≤ q) := by
  refine va_MetW (cc := cL_tank) (maxL := 4) (ret := (some .int)) (hh := [(0, 9, 12, 15), (0, 9, 15, 25)]) (by decide) rfl ?_
  intro p e s m args below meth c s₁ B hml hv
  obtain ⟨rfl, hsz, hP, hK, hX, hZ, hY, hS⟩ := Y_entry hv
  have hx := B.exec
  have hb := B.bytes
  have hr := B.returns
  have hts := atoms_spec (ws := wsL_tank) B.pre
  have hown : s.vm.findClass RL = some m.cls := findClass_of_methodNamed B.named
  have hlocks := B.notSynchronized
  have htab : c.exceptionTable.toList = tableOf [(0, 9, 12, 15), (0, 9, 15, 25)] := vx_table (x := yL_tank) B (hts (.codeWith yL_tank cL_tank 4 (some .int) [(0, 9, 12, 15), (0, 9, 15, 25)]) (by exact List.mem_cons_self))
  have ht6 : (gw cy (gw cy (hw cy w o P0) (o + 50) G0) (o + 1) G0) t = .inl (cy 7, 1, .inr (.inl f0)) := (gw_out (by omega)).trans ((gw_out (by omega)).trans ((hw_out (by omega)).trans ht0))
  have hl := lv_entry ([.ref o, .int x, .ref t]) (n := 4) (Nat.le_of_ble_eq_true rfl)
  rw [lg_entry_eq]
  generalize (lg_sl ([.ref o, .int x, .ref t]) ++ List.replicate (4 - (lg_sl ([.ref o, .int x, .ref t])).length) Slot.unset).toArray = ls at hl ⊢
  have hl : lv_has ls 4 [(0, .ref o), (1, .int x), (2, .ref t)] := hl
  refine lv_aload_n hx hb dL_tank_0 rfl (lv_at hl 2 rfl) ?_
  refine lv_iconst (v := 0) hx hb dL_tank_1 (by decide) ?_
  refine lv_aload_n hx hb dL_tank_2 rfl (lv_at hl 0 rfl) ?_
  refine lv_iload_n hx hb dL_tank_3 rfl (lv_at hl 1 rfl) ?_
  by_cases g0 : (0 ≤ x ∧ x ≤ 999)
  · refine x_calli (va_runV (As := [.int x]) (rest := [.int (0 : Int32), .ref t]) ⟨hx, hb, hml, hown, hts⟩ (c_X6_tank l D cy lo n w o G0 G0 P0 (by omega) (by omega) x g0.1 g0.2 (show G0 0 6 ≤ x from g0.1)) (cwV 1 hts gL_tank_X6_tank rfl rfl rfl (by decide +kernel) ⟨Nat.le_of_ble_eq_true rfl, Nat.le_of_ble_eq_true rfl⟩) (preV hP hK (x_recv (ci := 6) (q := (RX6, TX6, 11)) hK.1 hP (by omega) (by omega) rfl pwx_0)) rfl rfl hl.1 rfl (lv_room (Nat.le_of_ble_eq_true rfl)) dL_tank_4 ⟨Nat.le_of_ble_eq_true rfl, Nat.le_of_ble_eq_true rfl⟩) hS (fun H locs hP hS => ?_)
    refine x_gen hP (fun v1 e1 hP => ?_)
    have h_out : v1 t = .inl (cy 7, 1, .inr (.inl f0)) := by rw [e1]; exact (gw_out (by omega)).trans ((gw_out (by omega)).trans ((hw_out (by omega)).trans ht0))
    have hfo : ∀ a, (a < o ∨ o + 118 ≤ a) → v1 a = w a := fun a ha => by rw [e1]; exact (gw_out (by omega)).trans ((gw_out (by omega)).trans (hw_out (by omega)))
    refine x_top (v' := (0 : Int32)) rfl ?_
    refine lv_i2l hx hb dL_tank_7 rfl ?_
    refine x_topl (v' := 0) (by decide +kernel) ?_
    refine x_last hx hb hK.1 hP hS (by omega) (by omega) 7 h_out rfl (cl_of_nI (i := 0) rfl (by omega)) (vp_in_of_nI (i := 0) rfl (by omega) (by omega)) dL_tank_8 (fun H locs hP hS => ?_)
    refine lv_goto (tgt := 18) hx hb dL_tank_9 (by decide) ?_
    refine lv_iconst (v := 0) hx hb dL_tank_18 (by decide) ?_
    have eS : r_tank x = (0, 0) := by unfold r_tank; rw [if_pos g0]
    refine x_szn (by omega) (by omega) hP (fun hzH => ?_)
    refine W.widen (k := 1) (n := 6) (by omega) (by omega) ?_
    exact W.iret (v := (0 : Int32)) hx hb hr (fun tE ht hW => ⟨⟨(0 : Int32), (va_up v1 t (.inl (cy 7, 1, .inr (.inl (vp_updL f0 0 (0 : Int64)))))), rfl, ⟨by rw [eS], ⟨_, xu_same _ _ _, fun _ => by rw [eS]; first | rfl | (simp [vp_updL]; done) | (simp [vp_updL]; decide)⟩, fun a h8 h9 => (xu_ne h9).trans (hfo a h8)⟩, x_at ht hP, fun _ => by rw [ht]; exact hzH⟩, hS.F ht⟩) hS.2.2 dL_tank_19
  · refine y_catch (vx_runV (As := [.int x]) (rest := [.int (0 : Int32), .ref t]) ⟨hx, hb, hml, hown, hts⟩ (c_X6_tank_x1 l hfl D cy lo n w o G0 G0 P0 (by omega) (by omega) rfl x g0) (cwV 1 hts gL_tank_X6_tank rfl rfl rfl (by decide +kernel) ⟨Nat.le_of_ble_eq_true rfl, Nat.le_of_ble_eq_true rfl⟩) (preVX hP hK hX hZ hS (x_recv (ci := 6) (q := (RX6, TX6, 11)) hK.1 hP (by omega) (by omega) rfl pwx_0)) rfl rfl hl.1 rfl (lv_room (Nat.le_of_ble_eq_true rfl)) dL_tank_4 ⟨Nat.le_of_ble_eq_true rfl, Nat.le_of_ble_eq_true rfl⟩) hS hown [] ⟨0, 9, 12, 15⟩ [⟨0, 9, 15, 25⟩] (by rw [htab]; rfl) (fun z hz => nomatch hz) (by decide) (by decide) (hts (.classLink RL 15 IAE) (by decide +kernel)) (va_Nw.use rfl hY.2.1) (fun q9 H locs hP hS => ?_)
    refine lv_astore_n (lv' := [(3, .ref q9), (0, .ref o), (1, .int x), (2, .ref t)]) hx hb dL_tank_12 rfl hl (by decide) rfl (fun ls hl => ?_)
    refine lv_iconst (v := 1) hx hb dL_tank_13 (by decide) ?_
    have eS : r_tank x = (1, 0) := by unfold r_tank; rw [if_neg g0]
    exact W.iret (v := (1 : Int32)) hx hb hr (fun tE ht hW => ⟨⟨(1 : Int32), (gw cy (gw cy (hw cy w o P0) (o + 50) G0) (o + 1) G0), rfl, ⟨by rw [eS], ⟨f0, ht6, fun h0 => absurd h0 (by rw [eS]; decide)⟩, fun a h8 h9 => (gw_out (by omega)).trans ((gw_out (by omega)).trans (hw_out (by omega)))⟩, x_at ht hP, fun h0 => absurd h0 (by rw [eS]; decide)⟩, hS.F ht⟩) hS.2.2 dL_tank_14

set_option maxRecDepth 100000 in
set_option maxHeartbeats 1000000 in
theorem c_L_pass (l : Launch) (hfl : l.stackTraces = false) (D : va_G) (cy : Nat → ClassId) (lo n : Nat) (w : Nat → va_E) (o t : Nat) (ho1 : lo ≤ o) (ho2 : o + 118 ≤ lo + n) (ht1 : lo ≤ t) (ht2 : t < lo + n) (hto : t < o ∨ o + 118 ≤ t) (f0 : Nat → Int64) (ht0 : w t = .inl (cy 7, 1, .inr (.inl f0))) (x : Int32) : Met l yL_pass wsL_pass ({ frames := 8, cells := 1, slots := 6, locals := 135 }) (PcY D cy lo n (gw cy (gw cy (hw cy w o P0) (o + 50) G0) (o + 1) G0) [.ref o, .int x, .ref t]) (QY D cy lo n o t w (r_pass x)) 1 6 (fun q : Nat => lo ≤ q) := by
  refine va_MetW (cc := cL_pass) (maxL := 4) (ret := (some .int)) (hh := [(0, 9, 12, 15)]) (by decide) rfl ?_
  intro p e s m args below meth c s₁ B hml hv
  obtain ⟨rfl, hsz, hP, hK, hX, hZ, hY, hS⟩ := Y_entry hv
  have hx := B.exec
  have hb := B.bytes
  have hr := B.returns
  have hts := atoms_spec (ws := wsL_pass) B.pre
  have hown : s.vm.findClass RL = some m.cls := findClass_of_methodNamed B.named
  have hlocks := B.notSynchronized
  have htab : c.exceptionTable.toList = tableOf [(0, 9, 12, 15)] := vx_table (x := yL_pass) B (hts (.codeWith yL_pass cL_pass 4 (some .int) [(0, 9, 12, 15)]) (by exact List.mem_cons_self))
  have ht6 : (gw cy (gw cy (hw cy w o P0) (o + 50) G0) (o + 1) G0) t = .inl (cy 7, 1, .inr (.inl f0)) := (gw_out (by omega)).trans ((gw_out (by omega)).trans ((hw_out (by omega)).trans ht0))
  have hl := lv_entry ([.ref o, .int x, .ref t]) (n := 4) (Nat.le_of_ble_eq_true rfl)
  rw [lg_entry_eq]
  generalize (lg_sl ([.ref o, .int x, .ref t]) ++ List.replicate (4 - (lg_sl ([.ref o, .int x, .ref t])).length) Slot.unset).toArray = ls at hl ⊢
  have hl : lv_has ls 4 [(0, .ref o), (1, .int x), (2, .ref t)] := hl
  refine lv_aload_n hx hb dL_pass_0 rfl (lv_at hl 2 rfl) ?_
  refine lv_iconst (v := 0) hx hb dL_pass_1 (by decide) ?_
  refine lv_aload_n hx hb dL_pass_2 rfl (lv_at hl 0 rfl) ?_
  refine lv_iload_n hx hb dL_pass_3 rfl (lv_at hl 1 rfl) ?_
  by_cases g0 : (1 ≤ x ∧ x ≤ 24)
  · obtain ⟨xi, h_xi, e_xi⟩ := nI_of2 (n := 24) (by decide) (Int32.not_lt.mpr (Int32.le_trans (by decide) g0.1)) g0.2
    subst e_xi
    have l_xi : 1 ≤ xi := (br_le (show (1 : Int32) = nI 1 from rfl) (show (nI xi) = nI xi from rfl) (by omega) (by omega)).mp g0.1
    refine x_calli (va_runV (As := [.int (nI xi)]) (rest := [.int (0 : Int32), .ref t]) ⟨hx, hb, hml, hown, hts⟩ (c_X6_pass l D cy lo n w o G0 G0 P0 (by omega) (by omega) 0 gi_G0 xi (by omega) (by omega)) (cwV 1 hts gL_pass_X6_pass rfl rfl rfl (by decide +kernel) ⟨Nat.le_of_ble_eq_true rfl, Nat.le_of_ble_eq_true rfl⟩) (preV hP hK (x_recv (ci := 6) (q := (RX6, TX6, 11)) hK.1 hP (by omega) (by omega) rfl pwx_0)) rfl rfl hl.1 rfl (lv_room (Nat.le_of_ble_eq_true rfl)) dL_pass_4 ⟨Nat.le_of_ble_eq_true rfl, Nat.le_of_ble_eq_true rfl⟩) hS (fun H locs hP hS => ?_)
    refine x_gen hP (fun v1 e1 hP => ?_)
    have h_out : v1 t = .inl (cy 7, 1, .inr (.inl f0)) := by rw [e1]; exact (gw_out (by omega)).trans ((gw_out (by omega)).trans ((hw_out (by omega)).trans ht0))
    have hfo : ∀ a, (a < o ∨ o + 118 ≤ a) → v1 a = w a := fun a ha => by rw [e1]; exact (gw_out (by omega)).trans ((gw_out (by omega)).trans (hw_out (by omega)))
    refine x_top (v' := (0 : Int32)) ((pass_0 xi).1) ?_
    refine lv_i2l hx hb dL_pass_7 rfl ?_
    refine x_topl (v' := 0) (by decide +kernel) ?_
    refine x_last hx hb hK.1 hP hS (by omega) (by omega) 7 h_out rfl (cl_of_nI (i := 0) rfl (by omega)) (vp_in_of_nI (i := 0) rfl (by omega) (by omega)) dL_pass_8 (fun H locs hP hS => ?_)
    refine lv_goto (tgt := 15) hx hb dL_pass_9 (by decide) ?_
    refine lv_iconst (v := 0) hx hb dL_pass_15 (by decide) ?_
    have eS : r_pass (nI xi) = (0, 0) := by unfold r_pass; rw [if_pos g0]
    refine x_szn (by omega) (by omega) hP (fun hzH => ?_)
    refine W.widen (k := 1) (n := 6) (by omega) (by omega) ?_
    exact W.iret (v := (0 : Int32)) hx hb hr (fun tE ht hW => ⟨⟨(0 : Int32), (va_up v1 t (.inl (cy 7, 1, .inr (.inl (vp_updL f0 0 (0 : Int64)))))), rfl, ⟨by rw [eS], ⟨_, xu_same _ _ _, fun _ => by rw [eS]; first | rfl | (simp [vp_updL]; done) | (simp [vp_updL]; decide)⟩, fun a h8 h9 => (xu_ne h9).trans (hfo a h8)⟩, x_at ht hP, fun _ => by rw [ht]; exact hzH⟩, hS.F ht⟩) hS.2.2 dL_pass_16
  · refine y_catch (vx_runV (As := [.int x]) (rest := [.int (0 : Int32), .ref t]) ⟨hx, hb, hml, hown, hts⟩ (c_X6_pass_x1 l hfl D cy lo n w o G0 G0 P0 (by omega) (by omega) rfl x g0) (cwV 1 hts gL_pass_X6_pass rfl rfl rfl (by decide +kernel) ⟨Nat.le_of_ble_eq_true rfl, Nat.le_of_ble_eq_true rfl⟩) (preVX hP hK hX hZ hS (x_recv (ci := 6) (q := (RX6, TX6, 11)) hK.1 hP (by omega) (by omega) rfl pwx_0)) rfl rfl hl.1 rfl (lv_room (Nat.le_of_ble_eq_true rfl)) dL_pass_4 ⟨Nat.le_of_ble_eq_true rfl, Nat.le_of_ble_eq_true rfl⟩) hS hown [] ⟨0, 9, 12, 15⟩ [] (by rw [htab]; rfl) (fun z hz => nomatch hz) (by decide) (by decide) (hts (.classLink RL 15 IAE) (by decide +kernel)) (va_Nw.use rfl hY.2.1) (fun q9 H locs hP hS => ?_)
    refine lv_astore_n (lv' := [(3, .ref q9), (0, .ref o), (1, .int x), (2, .ref t)]) hx hb dL_pass_12 rfl hl (by decide) rfl (fun ls hl => ?_)
    refine lv_iconst (v := 1) hx hb dL_pass_13 (by decide) ?_
    have eS : r_pass x = (1, 0) := by unfold r_pass; rw [if_neg g0]
    exact W.iret (v := (1 : Int32)) hx hb hr (fun tE ht hW => ⟨⟨(1 : Int32), (gw cy (gw cy (hw cy w o P0) (o + 50) G0) (o + 1) G0), rfl, ⟨by rw [eS], ⟨f0, ht6, fun h0 => absurd h0 (by rw [eS]; decide)⟩, fun a h8 h9 => (gw_out (by omega)).trans ((gw_out (by omega)).trans (hw_out (by omega)))⟩, x_at ht hP, fun h0 => absurd h0 (by rw [eS]; decide)⟩, hS.F ht⟩) hS.2.2 dL_pass_14

set_option maxRecDepth 100000 in
set_option maxHeartbeats 1000000 in
theorem c_L_booked (l : Launch) (hfl : l.stackTraces = false) (D : va_G) (cy : Nat → ClassId) (lo n : Nat) (w : Nat → va_E) (o t : Nat) (ho1 : lo ≤ o) (ho2 : o + 118 ≤ lo + n) (ht1 : lo ≤ t) (ht2 : t < lo + n) (hto : t < o ∨ o + 118 ≤ t) (f0 : Nat → Int64) (ht0 : w t = .inl (cy 7, 1, .inr (.inl f0))) (x : Int32) : Met l yL_booked wsL_booked ({ frames := 8, cells := 1, slots := 6, locals := 133 }) (PcY D cy lo n (gw cy (gw cy (hw cy w o P0) (o + 50) G0) (o + 1) G0) [.ref o, .int x, .ref t]) (QY D cy lo n o t w (r_booked x)) 1 6 (fun q : Nat => lo ≤ q) := by
  refine va_MetW (cc := cL_booked) (maxL := 4) (ret := (some .int)) (hh := [(0, 9, 12, 15)]) (by decide) rfl ?_
  intro p e s m args below meth c s₁ B hml hv
  obtain ⟨rfl, hsz, hP, hK, hX, hZ, hY, hS⟩ := Y_entry hv
  have hx := B.exec
  have hb := B.bytes
  have hr := B.returns
  have hts := atoms_spec (ws := wsL_booked) B.pre
  have hown : s.vm.findClass RL = some m.cls := findClass_of_methodNamed B.named
  have hlocks := B.notSynchronized
  have htab : c.exceptionTable.toList = tableOf [(0, 9, 12, 15)] := vx_table (x := yL_booked) B (hts (.codeWith yL_booked cL_booked 4 (some .int) [(0, 9, 12, 15)]) (by exact List.mem_cons_self))
  have ht6 : (gw cy (gw cy (hw cy w o P0) (o + 50) G0) (o + 1) G0) t = .inl (cy 7, 1, .inr (.inl f0)) := (gw_out (by omega)).trans ((gw_out (by omega)).trans ((hw_out (by omega)).trans ht0))
  have hl := lv_entry ([.ref o, .int x, .ref t]) (n := 4) (Nat.le_of_ble_eq_true rfl)
  rw [lg_entry_eq]
  generalize (lg_sl ([.ref o, .int x, .ref t]) ++ List.replicate (4 - (lg_sl ([.ref o, .int x, .ref t])).length) Slot.unset).toArray = ls at hl ⊢
  have hl : lv_has ls 4 [(0, .ref o), (1, .int x), (2, .ref t)] := hl
  refine lv_aload_n hx hb dL_booked_0 rfl (lv_at hl 2 rfl) ?_
  refine lv_iconst (v := 0) hx hb dL_booked_1 (by decide) ?_
  refine lv_aload_n hx hb dL_booked_2 rfl (lv_at hl 0 rfl) ?_
  refine lv_iload_n hx hb dL_booked_3 rfl (lv_at hl 1 rfl) ?_
  by_cases g0 : (0 ≤ x ∧ x ≤ 4)
  · obtain ⟨xi, h_xi, e_xi⟩ := nI_of2 (n := 4) (by decide) (Int32.not_lt.mpr (Int32.le_trans (by decide) g0.1)) g0.2
    subst e_xi
    refine x_calli (va_runV (As := [.int (nI xi)]) (rest := [.int (0 : Int32), .ref t]) ⟨hx, hb, hml, hown, hts⟩ (c_X6_booked l D cy lo n w o G0 G0 P0 (by omega) (by omega) xi (by omega)) (cwV 1 hts gL_booked_X6_booked rfl rfl rfl (by decide +kernel) ⟨Nat.le_of_ble_eq_true rfl, Nat.le_of_ble_eq_true rfl⟩) (preV hP hK (x_recv (ci := 6) (q := (RX6, TX6, 11)) hK.1 hP (by omega) (by omega) rfl pwx_0)) rfl rfl hl.1 rfl (lv_room (Nat.le_of_ble_eq_true rfl)) dL_booked_4 ⟨Nat.le_of_ble_eq_true rfl, Nat.le_of_ble_eq_true rfl⟩) hS (fun H locs hP hS => ?_)
    refine x_gen hP (fun v1 e1 hP => ?_)
    have h_out : v1 t = .inl (cy 7, 1, .inr (.inl f0)) := by rw [e1]; exact (gw_out (by omega)).trans ((gw_out (by omega)).trans ((hw_out (by omega)).trans ht0))
    have hfo : ∀ a, (a < o ∨ o + 118 ≤ a) → v1 a = w a := fun a ha => by rw [e1]; exact (gw_out (by omega)).trans ((gw_out (by omega)).trans (hw_out (by omega)))
    refine x_top (v' := (if (nI xi) = 4 then -1 else 0 : Int32)) (booked_1 xi (by omega)) ?_
    refine lv_i2l hx hb dL_booked_7 rfl ?_
    refine x_last hx hb hK.1 hP hS (by omega) (by omega) 7 h_out rfl (cl_of_nI (i := 0) rfl (by omega)) (vp_in_of_nI (i := 0) rfl (by omega) (by omega)) dL_booked_8 (fun H locs hP hS => ?_)
    refine lv_goto (tgt := 15) hx hb dL_booked_9 (by decide) ?_
    refine lv_iconst (v := 0) hx hb dL_booked_15 (by decide) ?_
    have eS : r_booked (nI xi) = (0, (if (nI xi) = 4 then -1 else 0 : Int32)) := by unfold r_booked; rw [if_pos g0]
    refine x_szn (by omega) (by omega) hP (fun hzH => ?_)
    refine W.widen (k := 1) (n := 6) (by omega) (by omega) ?_
    exact W.iret (v := (0 : Int32)) hx hb hr (fun tE ht hW => ⟨⟨(0 : Int32), (va_up v1 t (.inl (cy 7, 1, .inr (.inl (vp_updL f0 0 ((if (nI xi) = 4 then -1 else 0 : Int32).toInt64)))))), rfl, ⟨by rw [eS], ⟨_, xu_same _ _ _, fun _ => by rw [eS]; first | rfl | (simp [vp_updL]; done) | (simp [vp_updL]; decide)⟩, fun a h8 h9 => (xu_ne h9).trans (hfo a h8)⟩, x_at ht hP, fun _ => by rw [ht]; exact hzH⟩, hS.F ht⟩) hS.2.2 dL_booked_16
  · refine y_catch (vx_runV (As := [.int x]) (rest := [.int (0 : Int32), .ref t]) ⟨hx, hb, hml, hown, hts⟩ (c_X6_booked_x1 l hfl D cy lo n w o G0 G0 P0 (by omega) (by omega) rfl x g0) (cwV 1 hts gL_booked_X6_booked rfl rfl rfl (by decide +kernel) ⟨Nat.le_of_ble_eq_true rfl, Nat.le_of_ble_eq_true rfl⟩) (preVX hP hK hX hZ hS (x_recv (ci := 6) (q := (RX6, TX6, 11)) hK.1 hP (by omega) (by omega) rfl pwx_0)) rfl rfl hl.1 rfl (lv_room (Nat.le_of_ble_eq_true rfl)) dL_booked_4 ⟨Nat.le_of_ble_eq_true rfl, Nat.le_of_ble_eq_true rfl⟩) hS hown [] ⟨0, 9, 12, 15⟩ [] (by rw [htab]; rfl) (fun z hz => nomatch hz) (by decide) (by decide) (hts (.classLink RL 15 IAE) (by decide +kernel)) (va_Nw.use rfl hY.2.1) (fun q9 H locs hP hS => ?_)
    refine lv_astore_n (lv' := [(3, .ref q9), (0, .ref o), (1, .int x), (2, .ref t)]) hx hb dL_booked_12 rfl hl (by decide) rfl (fun ls hl => ?_)
    refine lv_iconst (v := 1) hx hb dL_booked_13 (by decide) ?_
    have eS : r_booked x = (1, 0) := by unfold r_booked; rw [if_neg g0]
    exact W.iret (v := (1 : Int32)) hx hb hr (fun tE ht hW => ⟨⟨(1 : Int32), (gw cy (gw cy (hw cy w o P0) (o + 50) G0) (o + 1) G0), rfl, ⟨by rw [eS], ⟨f0, ht6, fun h0 => absurd h0 (by rw [eS]; decide)⟩, fun a h8 h9 => (gw_out (by omega)).trans ((gw_out (by omega)).trans (hw_out (by omega)))⟩, x_at ht hP, fun h0 => absurd h0 (by rw [eS]; decide)⟩, hS.F ht⟩) hS.2.2 dL_booked_14

set_option maxRecDepth 100000 in
set_option maxHeartbeats 1000000 in
theorem c_L_many (l : Launch) (hfl : l.stackTraces = false) (D : va_G) (cy : Nat → ClassId) (lo n : Nat) (w : Nat → va_E) (o t : Nat) (ho1 : lo ≤ o) (ho2 : o + 118 ≤ lo + n) (ht1 : lo ≤ t) (ht2 : t < lo + n) (hto : t < o ∨ o + 118 ≤ t) (f0 : Nat → Int64) (ht0 : w t = .inl (cy 7, 1, .inr (.inl f0))) (x : Int32) : Met l yL_many wsL_many ({ frames := 8, cells := 1, slots := 6, locals := 133 }) (PcY D cy lo n (gw cy (gw cy (hw cy w o P0) (o + 50) G0) (o + 1) G0) [.ref o, .int x, .ref t]) (QY D cy lo n o t w (r_many x)) 1 6 (fun q : Nat => lo ≤ q) := by
  refine va_MetW (cc := cL_many) (maxL := 4) (ret := (some .int)) (hh := [(0, 9, 12, 15)]) (by decide) rfl ?_
  intro p e s m args below meth c s₁ B hml hv
  obtain ⟨rfl, hsz, hP, hK, hX, hZ, hY, hS⟩ := Y_entry hv
  have hx := B.exec
  have hb := B.bytes
  have hr := B.returns
  have hts := atoms_spec (ws := wsL_many) B.pre
  have hown : s.vm.findClass RL = some m.cls := findClass_of_methodNamed B.named
  have hlocks := B.notSynchronized
  have htab : c.exceptionTable.toList = tableOf [(0, 9, 12, 15)] := vx_table (x := yL_many) B (hts (.codeWith yL_many cL_many 4 (some .int) [(0, 9, 12, 15)]) (by exact List.mem_cons_self))
  have ht6 : (gw cy (gw cy (hw cy w o P0) (o + 50) G0) (o + 1) G0) t = .inl (cy 7, 1, .inr (.inl f0)) := (gw_out (by omega)).trans ((gw_out (by omega)).trans ((hw_out (by omega)).trans ht0))
  have hl := lv_entry ([.ref o, .int x, .ref t]) (n := 4) (Nat.le_of_ble_eq_true rfl)
  rw [lg_entry_eq]
  generalize (lg_sl ([.ref o, .int x, .ref t]) ++ List.replicate (4 - (lg_sl ([.ref o, .int x, .ref t])).length) Slot.unset).toArray = ls at hl ⊢
  have hl : lv_has ls 4 [(0, .ref o), (1, .int x), (2, .ref t)] := hl
  refine lv_aload_n hx hb dL_many_0 rfl (lv_at hl 2 rfl) ?_
  refine lv_iconst (v := 0) hx hb dL_many_1 (by decide) ?_
  refine lv_aload_n hx hb dL_many_2 rfl (lv_at hl 0 rfl) ?_
  refine lv_iload_n hx hb dL_many_3 rfl (lv_at hl 1 rfl) ?_
  by_cases g0 : (0 ≤ x ∧ x ≤ 14)
  · obtain ⟨xi, h_xi, e_xi⟩ := nI_of2 (n := 14) (by decide) (Int32.not_lt.mpr (Int32.le_trans (by decide) g0.1)) g0.2
    subst e_xi
    refine x_calli (va_runV (As := [.int (nI xi)]) (rest := [.int (0 : Int32), .ref t]) ⟨hx, hb, hml, hown, hts⟩ (c_X6_many l D cy lo n w o G0 G0 P0 (by omega) (by omega) 0 gi_G0 xi (by omega)) (cwV 1 hts gL_many_X6_many rfl rfl rfl (by decide +kernel) ⟨Nat.le_of_ble_eq_true rfl, Nat.le_of_ble_eq_true rfl⟩) (preV hP hK (x_recv (ci := 6) (q := (RX6, TX6, 11)) hK.1 hP (by omega) (by omega) rfl pwx_0)) rfl rfl hl.1 rfl (lv_room (Nat.le_of_ble_eq_true rfl)) dL_many_4 ⟨Nat.le_of_ble_eq_true rfl, Nat.le_of_ble_eq_true rfl⟩) hS (fun H locs hP hS => ?_)
    refine x_gen hP (fun v1 e1 hP => ?_)
    have h_out : v1 t = .inl (cy 7, 1, .inr (.inl f0)) := by rw [e1]; exact (gw_out (by omega)).trans ((gw_out (by omega)).trans ((hw_out (by omega)).trans ht0))
    have hfo : ∀ a, (a < o ∨ o + 118 ≤ a) → v1 a = w a := fun a ha => by rw [e1]; exact (gw_out (by omega)).trans ((gw_out (by omega)).trans (hw_out (by omega)))
    refine x_top (v' := (0 : Int32)) (many_0 xi (by omega)) ?_
    refine lv_i2l hx hb dL_many_7 rfl ?_
    refine x_topl (v' := 0) (by decide +kernel) ?_
    refine x_last hx hb hK.1 hP hS (by omega) (by omega) 7 h_out rfl (cl_of_nI (i := 0) rfl (by omega)) (vp_in_of_nI (i := 0) rfl (by omega) (by omega)) dL_many_8 (fun H locs hP hS => ?_)
    refine lv_goto (tgt := 15) hx hb dL_many_9 (by decide) ?_
    refine lv_iconst (v := 0) hx hb dL_many_15 (by decide) ?_
    have eS : r_many (nI xi) = (0, 0) := by unfold r_many; rw [if_pos g0]
    refine x_szn (by omega) (by omega) hP (fun hzH => ?_)
    refine W.widen (k := 1) (n := 6) (by omega) (by omega) ?_
    exact W.iret (v := (0 : Int32)) hx hb hr (fun tE ht hW => ⟨⟨(0 : Int32), (va_up v1 t (.inl (cy 7, 1, .inr (.inl (vp_updL f0 0 (0 : Int64)))))), rfl, ⟨by rw [eS], ⟨_, xu_same _ _ _, fun _ => by rw [eS]; first | rfl | (simp [vp_updL]; done) | (simp [vp_updL]; decide)⟩, fun a h8 h9 => (xu_ne h9).trans (hfo a h8)⟩, x_at ht hP, fun _ => by rw [ht]; exact hzH⟩, hS.F ht⟩) hS.2.2 dL_many_16
  · refine y_catch (vx_runV (As := [.int x]) (rest := [.int (0 : Int32), .ref t]) ⟨hx, hb, hml, hown, hts⟩ (c_X6_many_x1 l hfl D cy lo n w o G0 G0 P0 (by omega) (by omega) rfl x g0) (cwV 1 hts gL_many_X6_many rfl rfl rfl (by decide +kernel) ⟨Nat.le_of_ble_eq_true rfl, Nat.le_of_ble_eq_true rfl⟩) (preVX hP hK hX hZ hS (x_recv (ci := 6) (q := (RX6, TX6, 11)) hK.1 hP (by omega) (by omega) rfl pwx_0)) rfl rfl hl.1 rfl (lv_room (Nat.le_of_ble_eq_true rfl)) dL_many_4 ⟨Nat.le_of_ble_eq_true rfl, Nat.le_of_ble_eq_true rfl⟩) hS hown [] ⟨0, 9, 12, 15⟩ [] (by rw [htab]; rfl) (fun z hz => nomatch hz) (by decide) (by decide) (hts (.classLink RL 15 IAE) (by decide +kernel)) (va_Nw.use rfl hY.2.1) (fun q9 H locs hP hS => ?_)
    refine lv_astore_n (lv' := [(3, .ref q9), (0, .ref o), (1, .int x), (2, .ref t)]) hx hb dL_many_12 rfl hl (by decide) rfl (fun ls hl => ?_)
    refine lv_iconst (v := 1) hx hb dL_many_13 (by decide) ?_
    have eS : r_many x = (1, 0) := by unfold r_many; rw [if_neg g0]
    exact W.iret (v := (1 : Int32)) hx hb hr (fun tE ht hW => ⟨⟨(1 : Int32), (gw cy (gw cy (hw cy w o P0) (o + 50) G0) (o + 1) G0), rfl, ⟨by rw [eS], ⟨f0, ht6, fun h0 => absurd h0 (by rw [eS]; decide)⟩, fun a h8 h9 => (gw_out (by omega)).trans ((gw_out (by omega)).trans (hw_out (by omega)))⟩, x_at ht hP, fun h0 => absurd h0 (by rw [eS]; decide)⟩, hS.F ht⟩) hS.2.2 dL_many_14

set_option maxRecDepth 100000 in
set_option maxHeartbeats 1000000 in
theorem c_L_mayLift (l : Launch) (hfl : l.stackTraces = false) (D : va_G) (cy : Nat → ClassId) (lo n : Nat) (w : Nat → va_E) (o t : Nat) (ho1 : lo ≤ o) (ho2 : o + 118 ≤ lo + n) (ht1 : lo ≤ t) (ht2 : t < lo + n) (hto : t < o ∨ o + 118 ≤ t) (f0 : Nat → Int64) (ht0 : w t = .inl (cy 7, 1, .inr (.inl f0))) (x : Int32) : Met l yL_mayLift wsL_mayLift ({ frames := 8, cells := 1, slots := 6, locals := 133 }) (PcY D cy lo n (gw cy (gw cy (hw cy w o P0) (o + 50) G0) (o + 1) G0) [.ref o, .int x, .ref t]) (QY D cy lo n o t w (r_mayLift x)) 1 6 (fun q : Nat => lo ≤ q) := by
  refine va_MetW (cc := cL_mayLift) (maxL := 4) (ret := (some .int)) (hh := [(0, 9, 12, 13)]) (by decide) rfl ?_
  intro p e s m args below meth c s₁ B hml hv
  obtain ⟨rfl, hsz, hP, hK, hX, hZ, hY, hS⟩ := Y_entry hv
  have hx := B.exec
  have hb := B.bytes
  have hr := B.returns
  have hts := atoms_spec (ws := wsL_mayLift) B.pre
  have hown : s.vm.findClass RL = some m.cls := findClass_of_methodNamed B.named
  have hlocks := B.notSynchronized
  have htab : c.exceptionTable.toList = tableOf [(0, 9, 12, 13)] := vx_table (x := yL_mayLift) B (hts (.codeWith yL_mayLift cL_mayLift 4 (some .int) [(0, 9, 12, 13)]) (by exact List.mem_cons_self))
  have ht6 : (gw cy (gw cy (hw cy w o P0) (o + 50) G0) (o + 1) G0) t = .inl (cy 7, 1, .inr (.inl f0)) := (gw_out (by omega)).trans ((gw_out (by omega)).trans ((hw_out (by omega)).trans ht0))
  have hl := lv_entry ([.ref o, .int x, .ref t]) (n := 4) (Nat.le_of_ble_eq_true rfl)
  rw [lg_entry_eq]
  generalize (lg_sl ([.ref o, .int x, .ref t]) ++ List.replicate (4 - (lg_sl ([.ref o, .int x, .ref t])).length) Slot.unset).toArray = ls at hl ⊢
  have hl : lv_has ls 4 [(0, .ref o), (1, .int x), (2, .ref t)] := hl
  refine lv_aload_n hx hb dL_mayLift_0 rfl (lv_at hl 2 rfl) ?_
  refine lv_iconst (v := 0) hx hb dL_mayLift_1 (by decide) ?_
  refine lv_aload_n hx hb dL_mayLift_2 rfl (lv_at hl 0 rfl) ?_
  refine lv_iload_n hx hb dL_mayLift_3 rfl (lv_at hl 1 rfl) ?_
  by_cases g0 : (0 ≤ x ∧ x ≤ 2)
  · obtain ⟨xi, h_xi, e_xi⟩ := nI_of2 (n := 2) (by decide) (Int32.not_lt.mpr (Int32.le_trans (by decide) g0.1)) g0.2
    subst e_xi
    refine x_calli (va_runV (As := [.int (nI xi)]) (rest := [.int (0 : Int32), .ref t]) ⟨hx, hb, hml, hown, hts⟩ (c_X6_mayLift l D cy lo n w o G0 G0 P0 (by omega) (by omega) xi (by omega)) (cwV 1 hts gL_mayLift_X6_mayLift rfl rfl rfl (by decide +kernel) ⟨Nat.le_of_ble_eq_true rfl, Nat.le_of_ble_eq_true rfl⟩) (preV hP hK (x_recv (ci := 6) (q := (RX6, TX6, 11)) hK.1 hP (by omega) (by omega) rfl pwx_0)) rfl rfl hl.1 rfl (lv_room (Nat.le_of_ble_eq_true rfl)) dL_mayLift_4 ⟨Nat.le_of_ble_eq_true rfl, Nat.le_of_ble_eq_true rfl⟩) hS (fun H locs hP hS => ?_)
    refine x_gen hP (fun v1 e1 hP => ?_)
    have h_out : v1 t = .inl (cy 7, 1, .inr (.inl f0)) := by rw [e1]; exact (gw_out (by omega)).trans ((gw_out (by omega)).trans ((hw_out (by omega)).trans ht0))
    have hfo : ∀ a, (a < o ∨ o + 118 ≤ a) → v1 a = w a := fun a ha => by rw [e1]; exact (gw_out (by omega)).trans ((gw_out (by omega)).trans (hw_out (by omega)))
    refine x_top (v' := (0 : Int32)) (may_0 xi (by omega)) ?_
    refine lv_i2l hx hb dL_mayLift_7 rfl ?_
    refine x_topl (v' := 0) (by decide +kernel) ?_
    refine x_last hx hb hK.1 hP hS (by omega) (by omega) 7 h_out rfl (cl_of_nI (i := 0) rfl (by omega)) (vp_in_of_nI (i := 0) rfl (by omega) (by omega)) dL_mayLift_8 (fun H locs hP hS => ?_)
    refine lv_goto (tgt := 15) hx hb dL_mayLift_9 (by decide) ?_
    refine lv_iconst (v := 0) hx hb dL_mayLift_15 (by decide) ?_
    have eS : r_mayLift (nI xi) = (0, 0) := by unfold r_mayLift; rw [if_pos g0]
    refine x_szn (by omega) (by omega) hP (fun hzH => ?_)
    refine W.widen (k := 1) (n := 6) (by omega) (by omega) ?_
    exact W.iret (v := (0 : Int32)) hx hb hr (fun tE ht hW => ⟨⟨(0 : Int32), (va_up v1 t (.inl (cy 7, 1, .inr (.inl (vp_updL f0 0 (0 : Int64)))))), rfl, ⟨by rw [eS], ⟨_, xu_same _ _ _, fun _ => by rw [eS]; first | rfl | (simp [vp_updL]; done) | (simp [vp_updL]; decide)⟩, fun a h8 h9 => (xu_ne h9).trans (hfo a h8)⟩, x_at ht hP, fun _ => by rw [ht]; exact hzH⟩, hS.F ht⟩) hS.2.2 dL_mayLift_16
  · refine y_catch (vx_runV (As := [.int x]) (rest := [.int (0 : Int32), .ref t]) ⟨hx, hb, hml, hown, hts⟩ (c_X6_mayLift_x1 l hfl D cy lo n w o G0 G0 P0 (by omega) (by omega) rfl x g0) (cwV 1 hts gL_mayLift_X6_mayLift rfl rfl rfl (by decide +kernel) ⟨Nat.le_of_ble_eq_true rfl, Nat.le_of_ble_eq_true rfl⟩) (preVX hP hK hX hZ hS (x_recv (ci := 6) (q := (RX6, TX6, 11)) hK.1 hP (by omega) (by omega) rfl pwx_0)) rfl rfl hl.1 rfl (lv_room (Nat.le_of_ble_eq_true rfl)) dL_mayLift_4 ⟨Nat.le_of_ble_eq_true rfl, Nat.le_of_ble_eq_true rfl⟩) hS hown [] ⟨0, 9, 12, 13⟩ [] (by rw [htab]; rfl) (fun z hz => nomatch hz) (by decide) (by decide) (hts (.classLink RL 13 IOB) (by decide +kernel)) (va_Nw.use rfl hY.1) (fun q9 H locs hP hS => ?_)
    refine lv_astore_n (lv' := [(3, .ref q9), (0, .ref o), (1, .int x), (2, .ref t)]) hx hb dL_mayLift_12 rfl hl (by decide) rfl (fun ls hl => ?_)
    refine lv_iconst (v := 1) hx hb dL_mayLift_13 (by decide) ?_
    have eS : r_mayLift x = (1, 0) := by unfold r_mayLift; rw [if_neg g0]
    exact W.iret (v := (1 : Int32)) hx hb hr (fun tE ht hW => ⟨⟨(1 : Int32), (gw cy (gw cy (hw cy w o P0) (o + 50) G0) (o + 1) G0), rfl, ⟨by rw [eS], ⟨f0, ht6, fun h0 => absurd h0 (by rw [eS]; decide)⟩, fun a h8 h9 => (gw_out (by omega)).trans ((gw_out (by omega)).trans (hw_out (by omega)))⟩, x_at ht hP, fun h0 => absurd h0 (by rw [eS]; decide)⟩, hS.F ht⟩) hS.2.2 dL_mayLift_14

set_option maxRecDepth 100000 in
set_option maxHeartbeats 1000000 in
theorem c_L_wouldGive (l : Launch) (hfl : l.stackTraces = false) (D : va_G) (cy : Nat → ClassId) (lo n : Nat) (w : Nat → va_E) (o t : Nat) (ho1 : lo ≤ o) (ho2 : o + 118 ≤ lo + n) (ht1 : lo ≤ t) (ht2 : t < lo + n) (hto : t < o ∨ o + 118 ≤ t) (f0 : Nat → Int64) (ht0 : w t = .inl (cy 7, 1, .inr (.inl f0))) (x : Int32) : Met l yL_wouldGive wsL_wouldGive ({ frames := 8, cells := 1, slots := 6, locals := 144 }) (PcY D cy lo n (gw cy (gw cy (hw cy w o P0) (o + 50) G0) (o + 1) G0) [.ref o, .int x, .ref t]) (QY D cy lo n o t w (r_wouldGive x)) 1 6 (fun q : Nat => lo ≤ q) := by
  refine va_MetW (cc := cL_wouldGive) (maxL := 4) (ret := (some .int)) (hh := [(0, 9, 12, 15)]) (by decide) rfl ?_
  intro p e s m args below meth c s₁ B hml hv
  obtain ⟨rfl, hsz, hP, hK, hX, hZ, hY, hS⟩ := Y_entry hv
  have hx := B.exec
  have hb := B.bytes
  have hr := B.returns
  have hts := atoms_spec (ws := wsL_wouldGive) B.pre
  have hown : s.vm.findClass RL = some m.cls := findClass_of_methodNamed B.named
  have hlocks := B.notSynchronized
  have htab : c.exceptionTable.toList = tableOf [(0, 9, 12, 15)] := vx_table (x := yL_wouldGive) B (hts (.codeWith yL_wouldGive cL_wouldGive 4 (some .int) [(0, 9, 12, 15)]) (by exact List.mem_cons_self))
  have ht6 : (gw cy (gw cy (hw cy w o P0) (o + 50) G0) (o + 1) G0) t = .inl (cy 7, 1, .inr (.inl f0)) := (gw_out (by omega)).trans ((gw_out (by omega)).trans ((hw_out (by omega)).trans ht0))
  have hl := lv_entry ([.ref o, .int x, .ref t]) (n := 4) (Nat.le_of_ble_eq_true rfl)
  rw [lg_entry_eq]
  generalize (lg_sl ([.ref o, .int x, .ref t]) ++ List.replicate (4 - (lg_sl ([.ref o, .int x, .ref t])).length) Slot.unset).toArray = ls at hl ⊢
  have hl : lv_has ls 4 [(0, .ref o), (1, .int x), (2, .ref t)] := hl
  refine lv_aload_n hx hb dL_wouldGive_0 rfl (lv_at hl 2 rfl) ?_
  refine lv_iconst (v := 0) hx hb dL_wouldGive_1 (by decide) ?_
  refine lv_aload_n hx hb dL_wouldGive_2 rfl (lv_at hl 0 rfl) ?_
  refine lv_iload_n hx hb dL_wouldGive_3 rfl (lv_at hl 1 rfl) ?_
  by_cases g0 : (1 ≤ x ∧ x ≤ 12)
  · obtain ⟨xi, h_xi, e_xi⟩ := nI_of2 (n := 12) (by decide) (Int32.not_lt.mpr (Int32.le_trans (by decide) g0.1)) g0.2
    subst e_xi
    have l_xi : 1 ≤ xi := (br_le (show (1 : Int32) = nI 1 from rfl) (show (nI xi) = nI xi from rfl) (by omega) (by omega)).mp g0.1
    refine x_calli (va_runV (As := [.int (nI xi)]) (rest := [.int (0 : Int32), .ref t]) ⟨hx, hb, hml, hown, hts⟩ (c_X6_wouldGive l D cy lo n w o G0 G0 P0 (by omega) (by omega) 0 gi_G0 xi (by omega) (by omega)) (cwV 1 hts gL_wouldGive_X6_wouldGive rfl rfl rfl (by decide +kernel) ⟨Nat.le_of_ble_eq_true rfl, Nat.le_of_ble_eq_true rfl⟩) (preV hP hK (x_recv (ci := 6) (q := (RX6, TX6, 11)) hK.1 hP (by omega) (by omega) rfl pwx_0)) rfl rfl hl.1 rfl (lv_room (Nat.le_of_ble_eq_true rfl)) dL_wouldGive_4 ⟨Nat.le_of_ble_eq_true rfl, Nat.le_of_ble_eq_true rfl⟩) hS (fun H locs hP hS => ?_)
    refine x_gen hP (fun v1 e1 hP => ?_)
    have h_out : v1 t = .inl (cy 7, 1, .inr (.inl f0)) := by rw [e1]; exact (gw_out (by omega)).trans ((gw_out (by omega)).trans ((hw_out (by omega)).trans ht0))
    have hfo : ∀ a, (a < o ∨ o + 118 ≤ a) → v1 a = w a := fun a ha => by rw [e1]; exact (gw_out (by omega)).trans ((gw_out (by omega)).trans (hw_out (by omega)))
    refine x_top (v' := (0 : Int32)) would_0 ?_
    refine lv_i2l hx hb dL_wouldGive_7 rfl ?_
    refine x_topl (v' := 0) (by decide +kernel) ?_
    refine x_last hx hb hK.1 hP hS (by omega) (by omega) 7 h_out rfl (cl_of_nI (i := 0) rfl (by omega)) (vp_in_of_nI (i := 0) rfl (by omega) (by omega)) dL_wouldGive_8 (fun H locs hP hS => ?_)
    refine lv_goto (tgt := 15) hx hb dL_wouldGive_9 (by decide) ?_
    refine lv_iconst (v := 0) hx hb dL_wouldGive_15 (by decide) ?_
    have eS : r_wouldGive (nI xi) = (0, 0) := by unfold r_wouldGive; rw [if_pos g0]
    refine x_szn (by omega) (by omega) hP (fun hzH => ?_)
    refine W.widen (k := 1) (n := 6) (by omega) (by omega) ?_
    exact W.iret (v := (0 : Int32)) hx hb hr (fun tE ht hW => ⟨⟨(0 : Int32), (va_up v1 t (.inl (cy 7, 1, .inr (.inl (vp_updL f0 0 (0 : Int64)))))), rfl, ⟨by rw [eS], ⟨_, xu_same _ _ _, fun _ => by rw [eS]; first | rfl | (simp [vp_updL]; done) | (simp [vp_updL]; decide)⟩, fun a h8 h9 => (xu_ne h9).trans (hfo a h8)⟩, x_at ht hP, fun _ => by rw [ht]; exact hzH⟩, hS.F ht⟩) hS.2.2 dL_wouldGive_16
  · refine y_catch (vx_runV (As := [.int x]) (rest := [.int (0 : Int32), .ref t]) ⟨hx, hb, hml, hown, hts⟩ (c_X6_wouldGive_x1 l hfl D cy lo n w o G0 G0 P0 (by omega) (by omega) rfl x g0) (cwV 1 hts gL_wouldGive_X6_wouldGive rfl rfl rfl (by decide +kernel) ⟨Nat.le_of_ble_eq_true rfl, Nat.le_of_ble_eq_true rfl⟩) (preVX hP hK hX hZ hS (x_recv (ci := 6) (q := (RX6, TX6, 11)) hK.1 hP (by omega) (by omega) rfl pwx_0)) rfl rfl hl.1 rfl (lv_room (Nat.le_of_ble_eq_true rfl)) dL_wouldGive_4 ⟨Nat.le_of_ble_eq_true rfl, Nat.le_of_ble_eq_true rfl⟩) hS hown [] ⟨0, 9, 12, 15⟩ [] (by rw [htab]; rfl) (fun z hz => nomatch hz) (by decide) (by decide) (hts (.classLink RL 15 IAE) (by decide +kernel)) (va_Nw.use rfl hY.2.1) (fun q9 H locs hP hS => ?_)
    refine lv_astore_n (lv' := [(3, .ref q9), (0, .ref o), (1, .int x), (2, .ref t)]) hx hb dL_wouldGive_12 rfl hl (by decide) rfl (fun ls hl => ?_)
    refine lv_iconst (v := 1) hx hb dL_wouldGive_13 (by decide) ?_
    have eS : r_wouldGive x = (1, 0) := by unfold r_wouldGive; rw [if_neg g0]
    exact W.iret (v := (1 : Int32)) hx hb hr (fun tE ht hW => ⟨⟨(1 : Int32), (gw cy (gw cy (hw cy w o P0) (o + 50) G0) (o + 1) G0), rfl, ⟨by rw [eS], ⟨f0, ht6, fun h0 => absurd h0 (by rw [eS]; decide)⟩, fun a h8 h9 => (gw_out (by omega)).trans ((gw_out (by omega)).trans (hw_out (by omega)))⟩, x_at ht hP, fun h0 => absurd h0 (by rw [eS]; decide)⟩, hS.F ht⟩) hS.2.2 dL_wouldGive_14

set_option maxRecDepth 100000 in
set_option maxHeartbeats 1000000 in
theorem c_L_choke (l : Launch) (hfl : l.stackTraces = false) (D : va_G) (cy : Nat → ClassId) (lo n : Nat) (w : Nat → va_E) (o t : Nat) (ho1 : lo ≤ o) (ho2 : o + 118 ≤ lo + n) (ht1 : lo ≤ t) (ht2 : t < lo + n) (hto : t < o ∨ o + 118 ≤ t) (f0 : Nat → Int64) (ht0 : w t = .inl (cy 7, 1, .inr (.inl f0))) (x y : Int32) : Met l yL_choke wsL_choke ({ frames := 8, cells := 1, slots := 6, locals := 134 }) (PcY D cy lo n (gw cy (gw cy (hw cy w o P0) (o + 50) G0) (o + 1) G0) [.ref o, .int x, .int y, .ref t]) (QY D cy lo n o t w (r_choke x y)) 1 6 (fun q : Nat => lo ≤ q) := by
  refine va_MetW (cc := cL_choke) (maxL := 5) (ret := (some .int)) (hh := [(0, 10, 13, 13), (0, 10, 17, 15), (0, 10, 21, 25)]) (by decide) rfl ?_
  intro p e s m args below meth c s₁ B hml hv
  obtain ⟨rfl, hsz, hP, hK, hX, hZ, hY, hS⟩ := Y_entry hv
  have hx := B.exec
  have hb := B.bytes
  have hr := B.returns
  have hts := atoms_spec (ws := wsL_choke) B.pre
  have hown : s.vm.findClass RL = some m.cls := findClass_of_methodNamed B.named
  have hlocks := B.notSynchronized
  have htab : c.exceptionTable.toList = tableOf [(0, 10, 13, 13), (0, 10, 17, 15), (0, 10, 21, 25)] := vx_table (x := yL_choke) B (hts (.codeWith yL_choke cL_choke 5 (some .int) [(0, 10, 13, 13), (0, 10, 17, 15), (0, 10, 21, 25)]) (by exact List.mem_cons_self))
  have ht6 : (gw cy (gw cy (hw cy w o P0) (o + 50) G0) (o + 1) G0) t = .inl (cy 7, 1, .inr (.inl f0)) := (gw_out (by omega)).trans ((gw_out (by omega)).trans ((hw_out (by omega)).trans ht0))
  have hl := lv_entry ([.ref o, .int x, .int y, .ref t]) (n := 5) (Nat.le_of_ble_eq_true rfl)
  rw [lg_entry_eq]
  generalize (lg_sl ([.ref o, .int x, .int y, .ref t]) ++ List.replicate (5 - (lg_sl ([.ref o, .int x, .int y, .ref t])).length) Slot.unset).toArray = ls at hl ⊢
  have hl : lv_has ls 5 [(0, .ref o), (1, .int x), (2, .int y), (3, .ref t)] := hl
  refine lv_aload_n hx hb dL_choke_0 rfl (lv_at hl 3 rfl) ?_
  refine lv_iconst (v := 0) hx hb dL_choke_1 (by decide) ?_
  refine lv_aload_n hx hb dL_choke_2 rfl (lv_at hl 0 rfl) ?_
  refine lv_iload_n hx hb dL_choke_3 rfl (lv_at hl 1 rfl) ?_
  refine lv_iload_n hx hb dL_choke_4 rfl (lv_at hl 2 rfl) ?_
  refine y_catch (vx_runV (As := [.int x, .int y]) (rest := [.int (0 : Int32), .ref t]) ⟨hx, hb, hml, hown, hts⟩ (c_X6_choke_x1 l hfl D cy lo n w o G0 G0 P0 (by omega) (by omega) rfl x y) (cwV 2 hts gL_choke_X6_choke rfl rfl rfl (by decide +kernel) ⟨Nat.le_of_ble_eq_true rfl, Nat.le_of_ble_eq_true rfl⟩) (preVX hP hK hX hZ hS (x_recv (ci := 6) (q := (RX6, TX6, 11)) hK.1 hP (by omega) (by omega) rfl pwx_0)) rfl rfl hl.1 rfl (lv_room (Nat.le_of_ble_eq_true rfl)) dL_choke_5 ⟨Nat.le_of_ble_eq_true rfl, Nat.le_of_ble_eq_true rfl⟩) hS hown [] ⟨0, 10, 13, 13⟩ [⟨0, 10, 17, 15⟩, ⟨0, 10, 21, 25⟩] (by rw [htab]; rfl) (fun z hz => nomatch hz) (by decide) (by decide) (hts (.classLink RL 13 IOB) (by decide +kernel)) (va_Nw.use rfl hY.1) (fun q9 H locs hP hS => ?_)
  refine lv_astore (lv' := [(4, .ref q9), (0, .ref o), (1, .int x), (2, .int y), (3, .ref t)]) hx hb dL_choke_13 hl (by decide) rfl (fun ls hl => ?_)
  refine lv_iconst (v := 1) hx hb dL_choke_15 (by decide) ?_
  have eS : r_choke x y = (1, 0) := by rfl
  exact W.iret (v := (1 : Int32)) hx hb hr (fun tE ht hW => ⟨⟨(1 : Int32), (gw cy (gw cy (hw cy w o P0) (o + 50) G0) (o + 1) G0), rfl, ⟨by rw [eS], ⟨f0, ht6, fun h0 => absurd h0 (by rw [eS]; decide)⟩, fun a h8 h9 => (gw_out (by omega)).trans ((gw_out (by omega)).trans (hw_out (by omega)))⟩, x_at ht hP, fun h0 => absurd h0 (by rw [eS]; decide)⟩, hS.F ht⟩) hS.2.2 dL_choke_16

set_option maxRecDepth 100000 in
set_option maxHeartbeats 1000000 in
theorem c_L_rank (l : Launch) (hfl : l.stackTraces = false) (D : va_G) (cy : Nat → ClassId) (lo n : Nat) (w : Nat → va_E) (o t : Nat) (ho1 : lo ≤ o) (ho2 : o + 118 ≤ lo + n) (ht1 : lo ≤ t) (ht2 : t < lo + n) (hto : t < o ∨ o + 118 ≤ t) (f0 : Nat → Int64) (ht0 : w t = .inl (cy 7, 1, .inr (.inl f0))) (x y : Int32) : Met l yL_rank wsL_rank ({ frames := 8, cells := 1, slots := 6, locals := 134 }) (PcY D cy lo n (gw cy (gw cy (hw cy w o P0) (o + 50) G0) (o + 1) G0) [.ref o, .int x, .int y, .ref t]) (QY D cy lo n o t w (r_rank x y)) 1 6 (fun q : Nat => lo ≤ q) := by
  refine va_MetW (cc := cL_rank) (maxL := 5) (ret := (some .int)) (hh := [(0, 10, 13, 13), (0, 10, 17, 15)]) (by decide) rfl ?_
  intro p e s m args below meth c s₁ B hml hv
  obtain ⟨rfl, hsz, hP, hK, hX, hZ, hY, hS⟩ := Y_entry hv
  have hx := B.exec
  have hb := B.bytes
  have hr := B.returns
  have hts := atoms_spec (ws := wsL_rank) B.pre
  have hown : s.vm.findClass RL = some m.cls := findClass_of_methodNamed B.named
  have hlocks := B.notSynchronized
  have htab : c.exceptionTable.toList = tableOf [(0, 10, 13, 13), (0, 10, 17, 15)] := vx_table (x := yL_rank) B (hts (.codeWith yL_rank cL_rank 5 (some .int) [(0, 10, 13, 13), (0, 10, 17, 15)]) (by exact List.mem_cons_self))
  have ht6 : (gw cy (gw cy (hw cy w o P0) (o + 50) G0) (o + 1) G0) t = .inl (cy 7, 1, .inr (.inl f0)) := (gw_out (by omega)).trans ((gw_out (by omega)).trans ((hw_out (by omega)).trans ht0))
  have hl := lv_entry ([.ref o, .int x, .int y, .ref t]) (n := 5) (Nat.le_of_ble_eq_true rfl)
  rw [lg_entry_eq]
  generalize (lg_sl ([.ref o, .int x, .int y, .ref t]) ++ List.replicate (5 - (lg_sl ([.ref o, .int x, .int y, .ref t])).length) Slot.unset).toArray = ls at hl ⊢
  have hl : lv_has ls 5 [(0, .ref o), (1, .int x), (2, .int y), (3, .ref t)] := hl
  refine lv_aload_n hx hb dL_rank_0 rfl (lv_at hl 3 rfl) ?_
  refine lv_iconst (v := 0) hx hb dL_rank_1 (by decide) ?_
  refine lv_aload_n hx hb dL_rank_2 rfl (lv_at hl 0 rfl) ?_
  refine lv_iload_n hx hb dL_rank_3 rfl (lv_at hl 1 rfl) ?_
  refine lv_iload_n hx hb dL_rank_4 rfl (lv_at hl 2 rfl) ?_
  refine y_catch (vx_runV (As := [.int x, .int y]) (rest := [.int (0 : Int32), .ref t]) ⟨hx, hb, hml, hown, hts⟩ (c_X6_rank_x1 l hfl D cy lo n w o G0 G0 P0 (by omega) (by omega) rfl x y) (cwV 2 hts gL_rank_X6_rank rfl rfl rfl (by decide +kernel) ⟨Nat.le_of_ble_eq_true rfl, Nat.le_of_ble_eq_true rfl⟩) (preVX hP hK hX hZ hS (x_recv (ci := 6) (q := (RX6, TX6, 11)) hK.1 hP (by omega) (by omega) rfl pwx_0)) rfl rfl hl.1 rfl (lv_room (Nat.le_of_ble_eq_true rfl)) dL_rank_5 ⟨Nat.le_of_ble_eq_true rfl, Nat.le_of_ble_eq_true rfl⟩) hS hown [] ⟨0, 10, 13, 13⟩ [⟨0, 10, 17, 15⟩] (by rw [htab]; rfl) (fun z hz => nomatch hz) (by decide) (by decide) (hts (.classLink RL 13 IOB) (by decide +kernel)) (va_Nw.use rfl hY.1) (fun q9 H locs hP hS => ?_)
  refine lv_astore (lv' := [(4, .ref q9), (0, .ref o), (1, .int x), (2, .int y), (3, .ref t)]) hx hb dL_rank_13 hl (by decide) rfl (fun ls hl => ?_)
  refine lv_iconst (v := 1) hx hb dL_rank_15 (by decide) ?_
  have eS : r_rank x y = (1, 0) := by rfl
  exact W.iret (v := (1 : Int32)) hx hb hr (fun tE ht hW => ⟨⟨(1 : Int32), (gw cy (gw cy (hw cy w o P0) (o + 50) G0) (o + 1) G0), rfl, ⟨by rw [eS], ⟨f0, ht6, fun h0 => absurd h0 (by rw [eS]; decide)⟩, fun a h8 h9 => (gw_out (by omega)).trans ((gw_out (by omega)).trans (hw_out (by omega)))⟩, x_at ht hP, fun h0 => absurd h0 (by rw [eS]; decide)⟩, hS.F ht⟩) hS.2.2 dL_rank_16

set_option maxRecDepth 100000 in
set_option maxHeartbeats 1000000 in
theorem c_L_ofWell (l : Launch) (hfl : l.stackTraces = false) (D : va_G) (cy : Nat → ClassId) (lo n : Nat) (w : Nat → va_E) (o t : Nat) (ho1 : lo ≤ o) (ho2 : o + 118 ≤ lo + n) (ht1 : lo ≤ t) (ht2 : t < lo + n) (hto : t < o ∨ o + 118 ≤ t) (f0 : Nat → Int64) (ht0 : w t = .inl (cy 7, 1, .inr (.inl f0))) (x y : Int32) : Met l yL_ofWell wsL_ofWell ({ frames := 8, cells := 1, slots := 6, locals := 135 }) (PcY D cy lo n (gw cy (gw cy (hw cy w o P0) (o + 50) G0) (o + 1) G0) [.ref o, .int x, .int y, .ref t]) (QY D cy lo n o t w (r_ofWell x y)) 1 6 (fun q : Nat => lo ≤ q) := by
  refine va_MetW (cc := cL_ofWell) (maxL := 5) (ret := (some .int)) (hh := [(0, 10, 13, 13), (0, 10, 17, 15)]) (by decide) rfl ?_
  intro p e s m args below meth c s₁ B hml hv
  obtain ⟨rfl, hsz, hP, hK, hX, hZ, hY, hS⟩ := Y_entry hv
  have hx := B.exec
  have hb := B.bytes
  have hr := B.returns
  have hts := atoms_spec (ws := wsL_ofWell) B.pre
  have hown : s.vm.findClass RL = some m.cls := findClass_of_methodNamed B.named
  have hlocks := B.notSynchronized
  have htab : c.exceptionTable.toList = tableOf [(0, 10, 13, 13), (0, 10, 17, 15)] := vx_table (x := yL_ofWell) B (hts (.codeWith yL_ofWell cL_ofWell 5 (some .int) [(0, 10, 13, 13), (0, 10, 17, 15)]) (by exact List.mem_cons_self))
  have ht6 : (gw cy (gw cy (hw cy w o P0) (o + 50) G0) (o + 1) G0) t = .inl (cy 7, 1, .inr (.inl f0)) := (gw_out (by omega)).trans ((gw_out (by omega)).trans ((hw_out (by omega)).trans ht0))
  have hl := lv_entry ([.ref o, .int x, .int y, .ref t]) (n := 5) (Nat.le_of_ble_eq_true rfl)
  rw [lg_entry_eq]
  generalize (lg_sl ([.ref o, .int x, .int y, .ref t]) ++ List.replicate (5 - (lg_sl ([.ref o, .int x, .int y, .ref t])).length) Slot.unset).toArray = ls at hl ⊢
  have hl : lv_has ls 5 [(0, .ref o), (1, .int x), (2, .int y), (3, .ref t)] := hl
  refine lv_aload_n hx hb dL_ofWell_0 rfl (lv_at hl 3 rfl) ?_
  refine lv_iconst (v := 0) hx hb dL_ofWell_1 (by decide) ?_
  refine lv_aload_n hx hb dL_ofWell_2 rfl (lv_at hl 0 rfl) ?_
  refine lv_iload_n hx hb dL_ofWell_3 rfl (lv_at hl 1 rfl) ?_
  refine lv_iload_n hx hb dL_ofWell_4 rfl (lv_at hl 2 rfl) ?_
  refine y_catch (vx_runV (As := [.int x, .int y]) (rest := [.int (0 : Int32), .ref t]) ⟨hx, hb, hml, hown, hts⟩ (c_X6_ofWell_x1 l hfl D cy lo n w o G0 G0 P0 (by omega) (by omega) rfl x y) (cwV 2 hts gL_ofWell_X6_ofWell rfl rfl rfl (by decide +kernel) ⟨Nat.le_of_ble_eq_true rfl, Nat.le_of_ble_eq_true rfl⟩) (preVX hP hK hX hZ hS (x_recv (ci := 6) (q := (RX6, TX6, 11)) hK.1 hP (by omega) (by omega) rfl pwx_0)) rfl rfl hl.1 rfl (lv_room (Nat.le_of_ble_eq_true rfl)) dL_ofWell_5 ⟨Nat.le_of_ble_eq_true rfl, Nat.le_of_ble_eq_true rfl⟩) hS hown [] ⟨0, 10, 13, 13⟩ [⟨0, 10, 17, 15⟩] (by rw [htab]; rfl) (fun z hz => nomatch hz) (by decide) (by decide) (hts (.classLink RL 13 IOB) (by decide +kernel)) (va_Nw.use rfl hY.1) (fun q9 H locs hP hS => ?_)
  refine lv_astore (lv' := [(4, .ref q9), (0, .ref o), (1, .int x), (2, .int y), (3, .ref t)]) hx hb dL_ofWell_13 hl (by decide) rfl (fun ls hl => ?_)
  refine lv_iconst (v := 1) hx hb dL_ofWell_15 (by decide) ?_
  have eS : r_ofWell x y = (1, 0) := by rfl
  exact W.iret (v := (1 : Int32)) hx hb hr (fun tE ht hW => ⟨⟨(1 : Int32), (gw cy (gw cy (hw cy w o P0) (o + 50) G0) (o + 1) G0), rfl, ⟨by rw [eS], ⟨f0, ht6, fun h0 => absurd h0 (by rw [eS]; decide)⟩, fun a h8 h9 => (gw_out (by omega)).trans ((gw_out (by omega)).trans (hw_out (by omega)))⟩, x_at ht hP, fun h0 => absurd h0 (by rw [eS]; decide)⟩, hS.F ht⟩) hS.2.2 dL_ofWell_16

set_option maxRecDepth 100000 in
set_option maxHeartbeats 1000000 in
theorem c_L_bestChoke (l : Launch) (hfl : l.stackTraces = false) (D : va_G) (cy : Nat → ClassId) (lo n : Nat) (w : Nat → va_E) (o t : Nat) (ho1 : lo ≤ o) (ho2 : o + 118 ≤ lo + n) (ht1 : lo ≤ t) (ht2 : t < lo + n) (hto : t < o ∨ o + 118 ≤ t) (f0 : Nat → Int64) (ht0 : w t = .inl (cy 7, 1, .inr (.inl f0))) (x y : Int32) : Met l yL_bestChoke wsL_bestChoke ({ frames := 8, cells := 1, slots := 6, locals := 137 }) (PcY D cy lo n (gw cy (gw cy (hw cy w o P0) (o + 50) G0) (o + 1) G0) [.ref o, .int x, .int y, .ref t]) (QY D cy lo n o t w (r_bestChoke x y)) 1 6 (fun q : Nat => lo ≤ q) := by
  refine va_MetW (cc := cL_bestChoke) (maxL := 5) (ret := (some .int)) (hh := [(0, 10, 13, 13), (0, 10, 17, 15), (0, 10, 21, 25)]) (by decide) rfl ?_
  intro p e s m args below meth c s₁ B hml hv
  obtain ⟨rfl, hsz, hP, hK, hX, hZ, hY, hS⟩ := Y_entry hv
  have hx := B.exec
  have hb := B.bytes
  have hr := B.returns
  have hts := atoms_spec (ws := wsL_bestChoke) B.pre
  have hown : s.vm.findClass RL = some m.cls := findClass_of_methodNamed B.named
  have hlocks := B.notSynchronized
  have htab : c.exceptionTable.toList = tableOf [(0, 10, 13, 13), (0, 10, 17, 15), (0, 10, 21, 25)] := vx_table (x := yL_bestChoke) B (hts (.codeWith yL_bestChoke cL_bestChoke 5 (some .int) [(0, 10, 13, 13), (0, 10, 17, 15), (0, 10, 21, 25)]) (by exact List.mem_cons_self))
  have ht6 : (gw cy (gw cy (hw cy w o P0) (o + 50) G0) (o + 1) G0) t = .inl (cy 7, 1, .inr (.inl f0)) := (gw_out (by omega)).trans ((gw_out (by omega)).trans ((hw_out (by omega)).trans ht0))
  have hl := lv_entry ([.ref o, .int x, .int y, .ref t]) (n := 5) (Nat.le_of_ble_eq_true rfl)
  rw [lg_entry_eq]
  generalize (lg_sl ([.ref o, .int x, .int y, .ref t]) ++ List.replicate (5 - (lg_sl ([.ref o, .int x, .int y, .ref t])).length) Slot.unset).toArray = ls at hl ⊢
  have hl : lv_has ls 5 [(0, .ref o), (1, .int x), (2, .int y), (3, .ref t)] := hl
  refine lv_aload_n hx hb dL_bestChoke_0 rfl (lv_at hl 3 rfl) ?_
  refine lv_iconst (v := 0) hx hb dL_bestChoke_1 (by decide) ?_
  refine lv_aload_n hx hb dL_bestChoke_2 rfl (lv_at hl 0 rfl) ?_
  refine lv_iload_n hx hb dL_bestChoke_3 rfl (lv_at hl 1 rfl) ?_
  refine lv_iload_n hx hb dL_bestChoke_4 rfl (lv_at hl 2 rfl) ?_
  refine y_catch (vx_runV (As := [.int x, .int y]) (rest := [.int (0 : Int32), .ref t]) ⟨hx, hb, hml, hown, hts⟩ (c_X6_bestChoke_x1 l hfl D cy lo n w o G0 G0 P0 (by omega) (by omega) rfl x y) (cwV 2 hts gL_bestChoke_X6_bestChoke rfl rfl rfl (by decide +kernel) ⟨Nat.le_of_ble_eq_true rfl, Nat.le_of_ble_eq_true rfl⟩) (preVX hP hK hX hZ hS (x_recv (ci := 6) (q := (RX6, TX6, 11)) hK.1 hP (by omega) (by omega) rfl pwx_0)) rfl rfl hl.1 rfl (lv_room (Nat.le_of_ble_eq_true rfl)) dL_bestChoke_5 ⟨Nat.le_of_ble_eq_true rfl, Nat.le_of_ble_eq_true rfl⟩) hS hown [] ⟨0, 10, 13, 13⟩ [⟨0, 10, 17, 15⟩, ⟨0, 10, 21, 25⟩] (by rw [htab]; rfl) (fun z hz => nomatch hz) (by decide) (by decide) (hts (.classLink RL 13 IOB) (by decide +kernel)) (va_Nw.use rfl hY.1) (fun q9 H locs hP hS => ?_)
  refine lv_astore (lv' := [(4, .ref q9), (0, .ref o), (1, .int x), (2, .int y), (3, .ref t)]) hx hb dL_bestChoke_13 hl (by decide) rfl (fun ls hl => ?_)
  refine lv_iconst (v := 1) hx hb dL_bestChoke_15 (by decide) ?_
  have eS : r_bestChoke x y = (1, 0) := by rfl
  exact W.iret (v := (1 : Int32)) hx hb hr (fun tE ht hW => ⟨⟨(1 : Int32), (gw cy (gw cy (hw cy w o P0) (o + 50) G0) (o + 1) G0), rfl, ⟨by rw [eS], ⟨f0, ht6, fun h0 => absurd h0 (by rw [eS]; decide)⟩, fun a h8 h9 => (gw_out (by omega)).trans ((gw_out (by omega)).trans (hw_out (by omega)))⟩, x_at ht hP, fun h0 => absurd h0 (by rw [eS]; decide)⟩, hS.F ht⟩) hS.2.2 dL_bestChoke_16

set_option maxRecDepth 100000 in
set_option maxHeartbeats 1000000 in
theorem c_L_test (l : Launch) (hfl : l.stackTraces = false) (D : va_G) (cy : Nat → ClassId) (lo n : Nat) (w : Nat → va_E) (o t : Nat) (ho1 : lo ≤ o) (ho2 : o + 118 ≤ lo + n) (ht1 : lo ≤ t) (ht2 : t < lo + n) (hto : t < o ∨ o + 118 ≤ t) (f0 : Nat → Int64) (ht0 : w t = .inl (cy 7, 1, .inr (.inl f0))) (x : Int32) : Met l yL_test wsL_test ({ frames := 8, cells := 1, slots := 6, locals := 133 }) (PcY D cy lo n (gw cy (gw cy (hw cy w o P0) (o + 50) G0) (o + 1) G0) [.ref o, .int x, .ref t]) (QY D cy lo n o t w (r_test x)) 1 6 (fun q : Nat => lo ≤ q) := by
  refine va_MetW (cc := cL_test) (maxL := 4) (ret := (some .int)) (hh := [(0, 16, 19, 13), (0, 16, 22, 25)]) (by decide) rfl ?_
  intro p e s m args below meth c s₁ B hml hv
  obtain ⟨rfl, hsz, hP, hK, hX, hZ, hY, hS⟩ := Y_entry hv
  have hx := B.exec
  have hb := B.bytes
  have hr := B.returns
  have hts := atoms_spec (ws := wsL_test) B.pre
  have hown : s.vm.findClass RL = some m.cls := findClass_of_methodNamed B.named
  have hlocks := B.notSynchronized
  have htab : c.exceptionTable.toList = tableOf [(0, 16, 19, 13), (0, 16, 22, 25)] := vx_table (x := yL_test) B (hts (.codeWith yL_test cL_test 4 (some .int) [(0, 16, 19, 13), (0, 16, 22, 25)]) (by exact List.mem_cons_self))
  have ht6 : (gw cy (gw cy (hw cy w o P0) (o + 50) G0) (o + 1) G0) t = .inl (cy 7, 1, .inr (.inl f0)) := (gw_out (by omega)).trans ((gw_out (by omega)).trans ((hw_out (by omega)).trans ht0))
  have hl := lv_entry ([.ref o, .int x, .ref t]) (n := 4) (Nat.le_of_ble_eq_true rfl)
  rw [lg_entry_eq]
  generalize (lg_sl ([.ref o, .int x, .ref t]) ++ List.replicate (4 - (lg_sl ([.ref o, .int x, .ref t])).length) Slot.unset).toArray = ls at hl ⊢
  have hl : lv_has ls 4 [(0, .ref o), (1, .int x), (2, .ref t)] := hl
  refine lv_aload_n hx hb dL_test_0 rfl (lv_at hl 2 rfl) ?_
  refine lv_iconst (v := 0) hx hb dL_test_1 (by decide) ?_
  refine lv_aload_n hx hb dL_test_2 rfl (lv_at hl 0 rfl) ?_
  refine lv_iload_n hx hb dL_test_3 rfl (lv_at hl 1 rfl) ?_
  refine y_catch (vx_runV (As := [.int x]) (rest := [.int (0 : Int32), .ref t]) ⟨hx, hb, hml, hown, hts⟩ (c_X6_test_x1 l hfl D cy lo n w o G0 G0 P0 (by omega) (by omega) rfl x) (cwV 1 hts gL_test_X6_test rfl rfl rfl (by decide +kernel) ⟨Nat.le_of_ble_eq_true rfl, Nat.le_of_ble_eq_true rfl⟩) (preVX hP hK hX hZ hS (x_recv (ci := 6) (q := (RX6, TX6, 11)) hK.1 hP (by omega) (by omega) rfl pwx_0)) rfl rfl hl.1 rfl (lv_room (Nat.le_of_ble_eq_true rfl)) dL_test_4 ⟨Nat.le_of_ble_eq_true rfl, Nat.le_of_ble_eq_true rfl⟩) hS hown [] ⟨0, 16, 19, 13⟩ [⟨0, 16, 22, 25⟩] (by rw [htab]; rfl) (fun z hz => nomatch hz) (by decide) (by decide) (hts (.classLink RL 13 IOB) (by decide +kernel)) (va_Nw.use rfl hY.1) (fun q9 H locs hP hS => ?_)
  refine lv_astore_n (lv' := [(3, .ref q9), (0, .ref o), (1, .int x), (2, .ref t)]) hx hb dL_test_19 rfl hl (by decide) rfl (fun ls hl => ?_)
  refine lv_iconst (v := 1) hx hb dL_test_20 (by decide) ?_
  have eS : r_test x = (1, 0) := by rfl
  exact W.iret (v := (1 : Int32)) hx hb hr (fun tE ht hW => ⟨⟨(1 : Int32), (gw cy (gw cy (hw cy w o P0) (o + 50) G0) (o + 1) G0), rfl, ⟨by rw [eS], ⟨f0, ht6, fun h0 => absurd h0 (by rw [eS]; decide)⟩, fun a h8 h9 => (gw_out (by omega)).trans ((gw_out (by omega)).trans (hw_out (by omega)))⟩, x_at ht hP, fun h0 => absurd h0 (by rw [eS]; decide)⟩, hS.F ht⟩) hS.2.2 dL_test_21

set_option maxRecDepth 100000 in
set_option maxHeartbeats 1000000 in
theorem c_L_plug (l : Launch) (hfl : l.stackTraces = false) (D : va_G) (cy : Nat → ClassId) (lo n : Nat) (w : Nat → va_E) (o t : Nat) (ho1 : lo ≤ o) (ho2 : o + 118 ≤ lo + n) (ht1 : lo ≤ t) (ht2 : t < lo + n) (hto : t < o ∨ o + 118 ≤ t) (f0 : Nat → Int64) (ht0 : w t = .inl (cy 7, 1, .inr (.inl f0))) (x : Int32) : Met l yL_plug wsL_plug ({ frames := 8, cells := 1, slots := 6, locals := 133 }) (PcY D cy lo n (gw cy (gw cy (hw cy w o P0) (o + 50) G0) (o + 1) G0) [.ref o, .int x, .ref t]) (QY D cy lo n o t w (r_plug x)) 1 6 (fun q : Nat => lo ≤ q) := by
  refine va_MetW (cc := cL_plug) (maxL := 4) (ret := (some .int)) (hh := [(0, 9, 12, 13), (0, 9, 15, 25)]) (by decide) rfl ?_
  intro p e s m args below meth c s₁ B hml hv
  obtain ⟨rfl, hsz, hP, hK, hX, hZ, hY, hS⟩ := Y_entry hv
  have hx := B.exec
  have hb := B.bytes
  have hr := B.returns
  have hts := atoms_spec (ws := wsL_plug) B.pre
  have hown : s.vm.findClass RL = some m.cls := findClass_of_methodNamed B.named
  have hlocks := B.notSynchronized
  have htab : c.exceptionTable.toList = tableOf [(0, 9, 12, 13), (0, 9, 15, 25)] := vx_table (x := yL_plug) B (hts (.codeWith yL_plug cL_plug 4 (some .int) [(0, 9, 12, 13), (0, 9, 15, 25)]) (by exact List.mem_cons_self))
  have ht6 : (gw cy (gw cy (hw cy w o P0) (o + 50) G0) (o + 1) G0) t = .inl (cy 7, 1, .inr (.inl f0)) := (gw_out (by omega)).trans ((gw_out (by omega)).trans ((hw_out (by omega)).trans ht0))
  have hl := lv_entry ([.ref o, .int x, .ref t]) (n := 4) (Nat.le_of_ble_eq_true rfl)
  rw [lg_entry_eq]
  generalize (lg_sl ([.ref o, .int x, .ref t]) ++ List.replicate (4 - (lg_sl ([.ref o, .int x, .ref t])).length) Slot.unset).toArray = ls at hl ⊢
  have hl : lv_has ls 4 [(0, .ref o), (1, .int x), (2, .ref t)] := hl
  refine lv_aload_n hx hb dL_plug_0 rfl (lv_at hl 2 rfl) ?_
  refine lv_iconst (v := 0) hx hb dL_plug_1 (by decide) ?_
  refine lv_aload_n hx hb dL_plug_2 rfl (lv_at hl 0 rfl) ?_
  refine lv_iload_n hx hb dL_plug_3 rfl (lv_at hl 1 rfl) ?_
  refine y_catch (vx_runV (As := [.int x]) (rest := [.int (0 : Int32), .ref t]) ⟨hx, hb, hml, hown, hts⟩ (c_X6_plug_x1 l hfl D cy lo n w o G0 G0 P0 (by omega) (by omega) rfl x) (cwV 1 hts gL_plug_X6_plug rfl rfl rfl (by decide +kernel) ⟨Nat.le_of_ble_eq_true rfl, Nat.le_of_ble_eq_true rfl⟩) (preVX hP hK hX hZ hS (x_recv (ci := 6) (q := (RX6, TX6, 11)) hK.1 hP (by omega) (by omega) rfl pwx_0)) rfl rfl hl.1 rfl (lv_room (Nat.le_of_ble_eq_true rfl)) dL_plug_4 ⟨Nat.le_of_ble_eq_true rfl, Nat.le_of_ble_eq_true rfl⟩) hS hown [] ⟨0, 9, 12, 13⟩ [⟨0, 9, 15, 25⟩] (by rw [htab]; rfl) (fun z hz => nomatch hz) (by decide) (by decide) (hts (.classLink RL 13 IOB) (by decide +kernel)) (va_Nw.use rfl hY.1) (fun q9 H locs hP hS => ?_)
  refine lv_astore_n (lv' := [(3, .ref q9), (0, .ref o), (1, .int x), (2, .ref t)]) hx hb dL_plug_12 rfl hl (by decide) rfl (fun ls hl => ?_)
  refine lv_iconst (v := 1) hx hb dL_plug_13 (by decide) ?_
  have eS : r_plug x = (1, 0) := by rfl
  exact W.iret (v := (1 : Int32)) hx hb hr (fun tE ht hW => ⟨⟨(1 : Int32), (gw cy (gw cy (hw cy w o P0) (o + 50) G0) (o + 1) G0), rfl, ⟨by rw [eS], ⟨f0, ht6, fun h0 => absurd h0 (by rw [eS]; decide)⟩, fun a h8 h9 => (gw_out (by omega)).trans ((gw_out (by omega)).trans (hw_out (by omega)))⟩, x_at ht hP, fun h0 => absurd h0 (by rw [eS]; decide)⟩, hS.F ht⟩) hS.2.2 dL_plug_14

set_option maxRecDepth 100000 in
set_option maxHeartbeats 1000000 in
theorem c_L_well (l : Launch) (hfl : l.stackTraces = false) (D : va_G) (cy : Nat → ClassId) (lo n : Nat) (w : Nat → va_E) (o t : Nat) (ho1 : lo ≤ o) (ho2 : o + 118 ≤ lo + n) (ht1 : lo ≤ t) (ht2 : t < lo + n) (hto : t < o ∨ o + 118 ≤ t) (f0 : Nat → Int64) (ht0 : w t = .inl (cy 7, 1, .inr (.inl f0))) (x y : Int32) : Met l yL_well wsL_well ({ frames := 8, cells := 1, slots := 6, locals := 135 }) (PcY D cy lo n (gw cy (gw cy (hw cy w o P0) (o + 50) G0) (o + 1) G0) [.ref o, .int x, .int y, .ref t]) (QY D cy lo n o t w (r_well x y)) 1 6 (fun q : Nat => lo ≤ q) := by
  refine va_MetW (cc := cL_well) (maxL := 5) (ret := (some .int)) (hh := [(0, 10, 13, 13), (0, 10, 17, 15), (0, 10, 21, 25)]) (by decide) rfl ?_
  intro p e s m args below meth c s₁ B hml hv
  obtain ⟨rfl, hsz, hP, hK, hX, hZ, hY, hS⟩ := Y_entry hv
  have hx := B.exec
  have hb := B.bytes
  have hr := B.returns
  have hts := atoms_spec (ws := wsL_well) B.pre
  have hown : s.vm.findClass RL = some m.cls := findClass_of_methodNamed B.named
  have hlocks := B.notSynchronized
  have htab : c.exceptionTable.toList = tableOf [(0, 10, 13, 13), (0, 10, 17, 15), (0, 10, 21, 25)] := vx_table (x := yL_well) B (hts (.codeWith yL_well cL_well 5 (some .int) [(0, 10, 13, 13), (0, 10, 17, 15), (0, 10, 21, 25)]) (by exact List.mem_cons_self))
  have ht6 : (gw cy (gw cy (hw cy w o P0) (o + 50) G0) (o + 1) G0) t = .inl (cy 7, 1, .inr (.inl f0)) := (gw_out (by omega)).trans ((gw_out (by omega)).trans ((hw_out (by omega)).trans ht0))
  have hl := lv_entry ([.ref o, .int x, .int y, .ref t]) (n := 5) (Nat.le_of_ble_eq_true rfl)
  rw [lg_entry_eq]
  generalize (lg_sl ([.ref o, .int x, .int y, .ref t]) ++ List.replicate (5 - (lg_sl ([.ref o, .int x, .int y, .ref t])).length) Slot.unset).toArray = ls at hl ⊢
  have hl : lv_has ls 5 [(0, .ref o), (1, .int x), (2, .int y), (3, .ref t)] := hl
  refine lv_aload_n hx hb dL_well_0 rfl (lv_at hl 3 rfl) ?_
  refine lv_iconst (v := 0) hx hb dL_well_1 (by decide) ?_
  refine lv_aload_n hx hb dL_well_2 rfl (lv_at hl 0 rfl) ?_
  refine lv_iload_n hx hb dL_well_3 rfl (lv_at hl 1 rfl) ?_
  refine lv_iload_n hx hb dL_well_4 rfl (lv_at hl 2 rfl) ?_
  by_cases g0 : (0 ≤ y ∧ y ≤ 15)
  · obtain ⟨yi, h_yi, e_yi⟩ := nI_of2 (n := 15) (by decide) (Int32.not_lt.mpr (Int32.le_trans (by decide) g0.1)) g0.2
    subst e_yi
    by_cases g1 : (0 ≤ x ∧ x ≤ 2)
    · refine x_calli (va_runV (As := [.int x, .int (nI yi)]) (rest := [.int (0 : Int32), .ref t]) ⟨hx, hb, hml, hown, hts⟩ (c_X6_well l D cy lo n w o G0 G0 P0 (by omega) (by omega) 0 gi_G0 yi (by omega) x g1.1 g1.2 (by omega)) (cwV 2 hts gL_well_X6_well rfl rfl rfl (by decide +kernel) ⟨Nat.le_of_ble_eq_true rfl, Nat.le_of_ble_eq_true rfl⟩) (preV hP hK (x_recv (ci := 6) (q := (RX6, TX6, 11)) hK.1 hP (by omega) (by omega) rfl pwx_0)) rfl rfl hl.1 rfl (lv_room (Nat.le_of_ble_eq_true rfl)) dL_well_5 ⟨Nat.le_of_ble_eq_true rfl, Nat.le_of_ble_eq_true rfl⟩) hS (fun H locs hP hS => ?_)
      refine x_gen hP (fun v1 e1 hP => ?_)
      have h_out : v1 t = .inl (cy 7, 1, .inr (.inl f0)) := by rw [e1]; exact (gw_out (by omega)).trans ((gw_out (by omega)).trans ((hw_out (by omega)).trans ht0))
      have hfo : ∀ a, (a < o ∨ o + 118 ≤ a) → v1 a = w a := fun a ha => by rw [e1]; exact (gw_out (by omega)).trans ((gw_out (by omega)).trans (hw_out (by omega)))
      refine x_top (v' := (0 : Int32)) rfl ?_
      refine lv_i2l hx hb dL_well_8 rfl ?_
      refine x_topl (v' := 0) (by decide +kernel) ?_
      refine x_last hx hb hK.1 hP hS (by omega) (by omega) 7 h_out rfl (cl_of_nI (i := 0) rfl (by omega)) (vp_in_of_nI (i := 0) rfl (by omega) (by omega)) dL_well_9 (fun H locs hP hS => ?_)
      refine lv_goto (tgt := 25) hx hb dL_well_10 (by decide) ?_
      refine lv_iconst (v := 0) hx hb dL_well_25 (by decide) ?_
      have eS : r_well x (nI yi) = (0, 0) := by unfold r_well; rw [if_pos g0, if_pos g1]
      refine x_szn (by omega) (by omega) hP (fun hzH => ?_)
      refine W.widen (k := 1) (n := 6) (by omega) (by omega) ?_
      exact W.iret (v := (0 : Int32)) hx hb hr (fun tE ht hW => ⟨⟨(0 : Int32), (va_up v1 t (.inl (cy 7, 1, .inr (.inl (vp_updL f0 0 (0 : Int64)))))), rfl, ⟨by rw [eS], ⟨_, xu_same _ _ _, fun _ => by rw [eS]; first | rfl | (simp [vp_updL]; done) | (simp [vp_updL]; decide)⟩, fun a h8 h9 => (xu_ne h9).trans (hfo a h8)⟩, x_at ht hP, fun _ => by rw [ht]; exact hzH⟩, hS.F ht⟩) hS.2.2 dL_well_26
    · refine y_catch (vx_runV (As := [.int x, .int (nI yi)]) (rest := [.int (0 : Int32), .ref t]) ⟨hx, hb, hml, hown, hts⟩ (c_X6_well_x2 l hfl D cy lo n w o G0 G0 P0 (by omega) (by omega) rfl yi (by omega) x g1) (cwV 2 hts gL_well_X6_well rfl rfl rfl (by decide +kernel) ⟨Nat.le_of_ble_eq_true rfl, Nat.le_of_ble_eq_true rfl⟩) (preVX hP hK hX hZ hS (x_recv (ci := 6) (q := (RX6, TX6, 11)) hK.1 hP (by omega) (by omega) rfl pwx_0)) rfl rfl hl.1 rfl (lv_room (Nat.le_of_ble_eq_true rfl)) dL_well_5 ⟨Nat.le_of_ble_eq_true rfl, Nat.le_of_ble_eq_true rfl⟩) hS hown [⟨0, 10, 13, 13⟩] ⟨0, 10, 17, 15⟩ [⟨0, 10, 21, 25⟩] (by rw [htab]; rfl) (fun z hz => by rcases List.mem_cons.mp hz with rfl | hz; exact Or.inr ⟨by decide, IOB, (hts (.classLink RL 13 IOB) (by decide +kernel)), hY.2.2⟩; exact nomatch hz) (by decide) (by decide) (hts (.classLink RL 15 IAE) (by decide +kernel)) (va_Nw.use rfl hY.2.1) (fun q9 H locs hP hS => ?_)
      refine lv_astore (lv' := [(4, .ref q9), (0, .ref o), (1, .int x), (2, .int (nI yi)), (3, .ref t)]) hx hb dL_well_17 hl (by decide) rfl (fun ls hl => ?_)
      refine lv_iconst (v := 2) hx hb dL_well_19 (by decide) ?_
      have eS : r_well x (nI yi) = (2, 0) := by unfold r_well; rw [if_pos g0, if_neg g1]
      exact W.iret (v := (2 : Int32)) hx hb hr (fun tE ht hW => ⟨⟨(2 : Int32), (gw cy (gw cy (hw cy w o P0) (o + 50) G0) (o + 1) G0), rfl, ⟨by rw [eS], ⟨f0, ht6, fun h0 => absurd h0 (by rw [eS]; decide)⟩, fun a h8 h9 => (gw_out (by omega)).trans ((gw_out (by omega)).trans (hw_out (by omega)))⟩, x_at ht hP, fun h0 => absurd h0 (by rw [eS]; decide)⟩, hS.F ht⟩) hS.2.2 dL_well_20
  · refine y_catch (vx_runV (As := [.int x, .int y]) (rest := [.int (0 : Int32), .ref t]) ⟨hx, hb, hml, hown, hts⟩ (c_X6_well_x1 l hfl D cy lo n w o G0 G0 P0 (by omega) (by omega) rfl x y g0) (cwV 2 hts gL_well_X6_well rfl rfl rfl (by decide +kernel) ⟨Nat.le_of_ble_eq_true rfl, Nat.le_of_ble_eq_true rfl⟩) (preVX hP hK hX hZ hS (x_recv (ci := 6) (q := (RX6, TX6, 11)) hK.1 hP (by omega) (by omega) rfl pwx_0)) rfl rfl hl.1 rfl (lv_room (Nat.le_of_ble_eq_true rfl)) dL_well_5 ⟨Nat.le_of_ble_eq_true rfl, Nat.le_of_ble_eq_true rfl⟩) hS hown [] ⟨0, 10, 13, 13⟩ [⟨0, 10, 17, 15⟩, ⟨0, 10, 21, 25⟩] (by rw [htab]; rfl) (fun z hz => nomatch hz) (by decide) (by decide) (hts (.classLink RL 13 IOB) (by decide +kernel)) (va_Nw.use rfl hY.1) (fun q9 H locs hP hS => ?_)
    refine lv_astore (lv' := [(4, .ref q9), (0, .ref o), (1, .int x), (2, .int y), (3, .ref t)]) hx hb dL_well_13 hl (by decide) rfl (fun ls hl => ?_)
    refine lv_iconst (v := 1) hx hb dL_well_15 (by decide) ?_
    have eS : r_well x y = (1, 0) := by unfold r_well; rw [if_neg g0]
    exact W.iret (v := (1 : Int32)) hx hb hr (fun tE ht hW => ⟨⟨(1 : Int32), (gw cy (gw cy (hw cy w o P0) (o + 50) G0) (o + 1) G0), rfl, ⟨by rw [eS], ⟨f0, ht6, fun h0 => absurd h0 (by rw [eS]; decide)⟩, fun a h8 h9 => (gw_out (by omega)).trans ((gw_out (by omega)).trans (hw_out (by omega)))⟩, x_at ht hP, fun h0 => absurd h0 (by rw [eS]; decide)⟩, hS.F ht⟩) hS.2.2 dL_well_16

set_option maxRecDepth 100000 in
set_option maxHeartbeats 1000000 in
theorem c_L_capacity (l : Launch) (hfl : l.stackTraces = false) (D : va_G) (cy : Nat → ClassId) (lo n : Nat) (w : Nat → va_E) (o t : Nat) (ho1 : lo ≤ o) (ho2 : o + 118 ≤ lo + n) (ht1 : lo ≤ t) (ht2 : t < lo + n) (hto : t < o ∨ o + 118 ≤ t) (f0 : Nat → Int64) (ht0 : w t = .inl (cy 7, 1, .inr (.inl f0))) (x y : Int32) : Met l yL_capacity wsL_capacity ({ frames := 8, cells := 1, slots := 6, locals := 135 }) (PcY D cy lo n (gw cy (gw cy (hw cy w o P0) (o + 50) G0) (o + 1) G0) [.ref o, .int x, .int y, .ref t]) (QY D cy lo n o t w (r_capacity x y)) 1 6 (fun q : Nat => lo ≤ q) := by
  refine va_MetW (cc := cL_capacity) (maxL := 5) (ret := (some .int)) (hh := [(0, 10, 13, 13), (0, 10, 17, 15)]) (by decide) rfl ?_
  intro p e s m args below meth c s₁ B hml hv
  obtain ⟨rfl, hsz, hP, hK, hX, hZ, hY, hS⟩ := Y_entry hv
  have hx := B.exec
  have hb := B.bytes
  have hr := B.returns
  have hts := atoms_spec (ws := wsL_capacity) B.pre
  have hown : s.vm.findClass RL = some m.cls := findClass_of_methodNamed B.named
  have hlocks := B.notSynchronized
  have htab : c.exceptionTable.toList = tableOf [(0, 10, 13, 13), (0, 10, 17, 15)] := vx_table (x := yL_capacity) B (hts (.codeWith yL_capacity cL_capacity 5 (some .int) [(0, 10, 13, 13), (0, 10, 17, 15)]) (by exact List.mem_cons_self))
  have ht6 : (gw cy (gw cy (hw cy w o P0) (o + 50) G0) (o + 1) G0) t = .inl (cy 7, 1, .inr (.inl f0)) := (gw_out (by omega)).trans ((gw_out (by omega)).trans ((hw_out (by omega)).trans ht0))
  have hl := lv_entry ([.ref o, .int x, .int y, .ref t]) (n := 5) (Nat.le_of_ble_eq_true rfl)
  rw [lg_entry_eq]
  generalize (lg_sl ([.ref o, .int x, .int y, .ref t]) ++ List.replicate (5 - (lg_sl ([.ref o, .int x, .int y, .ref t])).length) Slot.unset).toArray = ls at hl ⊢
  have hl : lv_has ls 5 [(0, .ref o), (1, .int x), (2, .int y), (3, .ref t)] := hl
  refine lv_aload_n hx hb dL_capacity_0 rfl (lv_at hl 3 rfl) ?_
  refine lv_iconst (v := 0) hx hb dL_capacity_1 (by decide) ?_
  refine lv_aload_n hx hb dL_capacity_2 rfl (lv_at hl 0 rfl) ?_
  refine lv_iload_n hx hb dL_capacity_3 rfl (lv_at hl 1 rfl) ?_
  refine lv_iload_n hx hb dL_capacity_4 rfl (lv_at hl 2 rfl) ?_
  by_cases g0 : (0 ≤ x ∧ x ≤ 2)
  · obtain ⟨xi, h_xi, e_xi⟩ := nI_of2 (n := 2) (by decide) (Int32.not_lt.mpr (Int32.le_trans (by decide) g0.1)) g0.2
    subst e_xi
    by_cases g1 : (0 ≤ y ∧ y ≤ 99)
    · refine x_calli (va_runV (As := [.int (nI xi), .int y]) (rest := [.int (0 : Int32), .ref t]) ⟨hx, hb, hml, hown, hts⟩ (c_X6_capacity l D cy lo n w o G0 G0 P0 (by omega) (by omega) xi (by omega) y g1.1 g1.2) (cwV 2 hts gL_capacity_X6_capacity rfl rfl rfl (by decide +kernel) ⟨Nat.le_of_ble_eq_true rfl, Nat.le_of_ble_eq_true rfl⟩) (preV hP hK (x_recv (ci := 6) (q := (RX6, TX6, 11)) hK.1 hP (by omega) (by omega) rfl pwx_0)) rfl rfl hl.1 rfl (lv_room (Nat.le_of_ble_eq_true rfl)) dL_capacity_5 ⟨Nat.le_of_ble_eq_true rfl, Nat.le_of_ble_eq_true rfl⟩) hS (fun H locs hP hS => ?_)
      refine x_gen hP (fun v1 e1 hP => ?_)
      have h_out : v1 t = .inl (cy 7, 1, .inr (.inl f0)) := by rw [e1]; exact (gw_out (by omega)).trans ((gw_out (by omega)).trans ((hw_out (by omega)).trans ht0))
      have hfo : ∀ a, (a < o ∨ o + 118 ≤ a) → v1 a = w a := fun a ha => by rw [e1]; exact (gw_out (by omega)).trans ((gw_out (by omega)).trans (hw_out (by omega)))
      refine x_top (v' := (40 : Int32)) (cap_1 xi (by omega)) ?_
      refine lv_i2l hx hb dL_capacity_8 rfl ?_
      refine x_topl (v' := 40) (by decide +kernel) ?_
      refine x_last hx hb hK.1 hP hS (by omega) (by omega) 7 h_out rfl (cl_of_nI (i := 0) rfl (by omega)) (vp_in_of_nI (i := 0) rfl (by omega) (by omega)) dL_capacity_9 (fun H locs hP hS => ?_)
      refine lv_goto (tgt := 21) hx hb dL_capacity_10 (by decide) ?_
      refine lv_iconst (v := 0) hx hb dL_capacity_21 (by decide) ?_
      have eS : r_capacity (nI xi) y = (0, 40) := by unfold r_capacity; rw [if_pos g0, if_pos g1]
      refine x_szn (by omega) (by omega) hP (fun hzH => ?_)
      refine W.widen (k := 1) (n := 6) (by omega) (by omega) ?_
      exact W.iret (v := (0 : Int32)) hx hb hr (fun tE ht hW => ⟨⟨(0 : Int32), (va_up v1 t (.inl (cy 7, 1, .inr (.inl (vp_updL f0 0 (40 : Int64)))))), rfl, ⟨by rw [eS], ⟨_, xu_same _ _ _, fun _ => by rw [eS]; first | rfl | (simp [vp_updL]; done) | (simp [vp_updL]; decide)⟩, fun a h8 h9 => (xu_ne h9).trans (hfo a h8)⟩, x_at ht hP, fun _ => by rw [ht]; exact hzH⟩, hS.F ht⟩) hS.2.2 dL_capacity_22
    · refine y_catch (vx_runV (As := [.int (nI xi), .int y]) (rest := [.int (0 : Int32), .ref t]) ⟨hx, hb, hml, hown, hts⟩ (c_X6_capacity_x2 l hfl D cy lo n w o G0 G0 P0 (by omega) (by omega) rfl xi (by omega) y g1) (cwV 2 hts gL_capacity_X6_capacity rfl rfl rfl (by decide +kernel) ⟨Nat.le_of_ble_eq_true rfl, Nat.le_of_ble_eq_true rfl⟩) (preVX hP hK hX hZ hS (x_recv (ci := 6) (q := (RX6, TX6, 11)) hK.1 hP (by omega) (by omega) rfl pwx_0)) rfl rfl hl.1 rfl (lv_room (Nat.le_of_ble_eq_true rfl)) dL_capacity_5 ⟨Nat.le_of_ble_eq_true rfl, Nat.le_of_ble_eq_true rfl⟩) hS hown [⟨0, 10, 13, 13⟩] ⟨0, 10, 17, 15⟩ [] (by rw [htab]; rfl) (fun z hz => by rcases List.mem_cons.mp hz with rfl | hz; exact Or.inr ⟨by decide, IOB, (hts (.classLink RL 13 IOB) (by decide +kernel)), hY.2.2⟩; exact nomatch hz) (by decide) (by decide) (hts (.classLink RL 15 IAE) (by decide +kernel)) (va_Nw.use rfl hY.2.1) (fun q9 H locs hP hS => ?_)
      refine lv_astore (lv' := [(4, .ref q9), (0, .ref o), (1, .int (nI xi)), (2, .int y), (3, .ref t)]) hx hb dL_capacity_17 hl (by decide) rfl (fun ls hl => ?_)
      refine lv_iconst (v := 2) hx hb dL_capacity_19 (by decide) ?_
      have eS : r_capacity (nI xi) y = (2, 0) := by unfold r_capacity; rw [if_pos g0, if_neg g1]
      exact W.iret (v := (2 : Int32)) hx hb hr (fun tE ht hW => ⟨⟨(2 : Int32), (gw cy (gw cy (hw cy w o P0) (o + 50) G0) (o + 1) G0), rfl, ⟨by rw [eS], ⟨f0, ht6, fun h0 => absurd h0 (by rw [eS]; decide)⟩, fun a h8 h9 => (gw_out (by omega)).trans ((gw_out (by omega)).trans (hw_out (by omega)))⟩, x_at ht hP, fun h0 => absurd h0 (by rw [eS]; decide)⟩, hS.F ht⟩) hS.2.2 dL_capacity_20
  · refine y_catch (vx_runV (As := [.int x, .int y]) (rest := [.int (0 : Int32), .ref t]) ⟨hx, hb, hml, hown, hts⟩ (c_X6_capacity_x1 l hfl D cy lo n w o G0 G0 P0 (by omega) (by omega) rfl x y g0) (cwV 2 hts gL_capacity_X6_capacity rfl rfl rfl (by decide +kernel) ⟨Nat.le_of_ble_eq_true rfl, Nat.le_of_ble_eq_true rfl⟩) (preVX hP hK hX hZ hS (x_recv (ci := 6) (q := (RX6, TX6, 11)) hK.1 hP (by omega) (by omega) rfl pwx_0)) rfl rfl hl.1 rfl (lv_room (Nat.le_of_ble_eq_true rfl)) dL_capacity_5 ⟨Nat.le_of_ble_eq_true rfl, Nat.le_of_ble_eq_true rfl⟩) hS hown [] ⟨0, 10, 13, 13⟩ [⟨0, 10, 17, 15⟩] (by rw [htab]; rfl) (fun z hz => nomatch hz) (by decide) (by decide) (hts (.classLink RL 13 IOB) (by decide +kernel)) (va_Nw.use rfl hY.1) (fun q9 H locs hP hS => ?_)
    refine lv_astore (lv' := [(4, .ref q9), (0, .ref o), (1, .int x), (2, .int y), (3, .ref t)]) hx hb dL_capacity_13 hl (by decide) rfl (fun ls hl => ?_)
    refine lv_iconst (v := 1) hx hb dL_capacity_15 (by decide) ?_
    have eS : r_capacity x y = (1, 0) := by unfold r_capacity; rw [if_neg g0]
    exact W.iret (v := (1 : Int32)) hx hb hr (fun tE ht hW => ⟨⟨(1 : Int32), (gw cy (gw cy (hw cy w o P0) (o + 50) G0) (o + 1) G0), rfl, ⟨by rw [eS], ⟨f0, ht6, fun h0 => absurd h0 (by rw [eS]; decide)⟩, fun a h8 h9 => (gw_out (by omega)).trans ((gw_out (by omega)).trans (hw_out (by omega)))⟩, x_at ht hP, fun h0 => absurd h0 (by rw [eS]; decide)⟩, hS.F ht⟩) hS.2.2 dL_capacity_16

set_option maxRecDepth 100000 in
set_option maxHeartbeats 1000000 in
theorem c_L_lift (l : Launch) (hfl : l.stackTraces = false) (D : va_G) (cy : Nat → ClassId) (lo n : Nat) (w : Nat → va_E) (o t : Nat) (ho1 : lo ≤ o) (ho2 : o + 118 ≤ lo + n) (ht1 : lo ≤ t) (ht2 : t < lo + n) (hto : t < o ∨ o + 118 ≤ t) (f0 : Nat → Int64) (ht0 : w t = .inl (cy 7, 1, .inr (.inl f0))) (x y : Int32) : Met l yL_lift wsL_lift ({ frames := 8, cells := 1, slots := 6, locals := 135 }) (PcY D cy lo n (gw cy (gw cy (hw cy w o P0) (o + 50) G0) (o + 1) G0) [.ref o, .int x, .int y, .ref t]) (QY D cy lo n o t w (r_lift x y)) 1 6 (fun q : Nat => lo ≤ q) := by
  refine va_MetW (cc := cL_lift) (maxL := 5) (ret := (some .int)) (hh := [(0, 10, 13, 13), (0, 10, 17, 15)]) (by decide) rfl ?_
  intro p e s m args below meth c s₁ B hml hv
  obtain ⟨rfl, hsz, hP, hK, hX, hZ, hY, hS⟩ := Y_entry hv
  have hx := B.exec
  have hb := B.bytes
  have hr := B.returns
  have hts := atoms_spec (ws := wsL_lift) B.pre
  have hown : s.vm.findClass RL = some m.cls := findClass_of_methodNamed B.named
  have hlocks := B.notSynchronized
  have htab : c.exceptionTable.toList = tableOf [(0, 10, 13, 13), (0, 10, 17, 15)] := vx_table (x := yL_lift) B (hts (.codeWith yL_lift cL_lift 5 (some .int) [(0, 10, 13, 13), (0, 10, 17, 15)]) (by exact List.mem_cons_self))
  have ht6 : (gw cy (gw cy (hw cy w o P0) (o + 50) G0) (o + 1) G0) t = .inl (cy 7, 1, .inr (.inl f0)) := (gw_out (by omega)).trans ((gw_out (by omega)).trans ((hw_out (by omega)).trans ht0))
  have hl := lv_entry ([.ref o, .int x, .int y, .ref t]) (n := 5) (Nat.le_of_ble_eq_true rfl)
  rw [lg_entry_eq]
  generalize (lg_sl ([.ref o, .int x, .int y, .ref t]) ++ List.replicate (5 - (lg_sl ([.ref o, .int x, .int y, .ref t])).length) Slot.unset).toArray = ls at hl ⊢
  have hl : lv_has ls 5 [(0, .ref o), (1, .int x), (2, .int y), (3, .ref t)] := hl
  refine lv_aload_n hx hb dL_lift_0 rfl (lv_at hl 3 rfl) ?_
  refine lv_iconst (v := 0) hx hb dL_lift_1 (by decide) ?_
  refine lv_aload_n hx hb dL_lift_2 rfl (lv_at hl 0 rfl) ?_
  refine lv_iload_n hx hb dL_lift_3 rfl (lv_at hl 1 rfl) ?_
  refine lv_iload_n hx hb dL_lift_4 rfl (lv_at hl 2 rfl) ?_
  by_cases g0 : (0 ≤ x ∧ x ≤ 2)
  · obtain ⟨xi, h_xi, e_xi⟩ := nI_of2 (n := 2) (by decide) (Int32.not_lt.mpr (Int32.le_trans (by decide) g0.1)) g0.2
    subst e_xi
    by_cases g1 : (1 ≤ y ∧ y ≤ 999)
    · refine x_calli (va_runV (As := [.int (nI xi), .int y]) (rest := [.int (0 : Int32), .ref t]) ⟨hx, hb, hml, hown, hts⟩ (c_X6_lift l D cy lo n w o G0 G0 P0 (by omega) (by omega) xi (by omega) y g1.1 g1.2) (cwV 2 hts gL_lift_X6_lift rfl rfl rfl (by decide +kernel) ⟨Nat.le_of_ble_eq_true rfl, Nat.le_of_ble_eq_true rfl⟩) (preV hP hK (x_recv (ci := 6) (q := (RX6, TX6, 11)) hK.1 hP (by omega) (by omega) rfl pwx_0)) rfl rfl hl.1 rfl (lv_room (Nat.le_of_ble_eq_true rfl)) dL_lift_5 ⟨Nat.le_of_ble_eq_true rfl, Nat.le_of_ble_eq_true rfl⟩) hS (fun H locs hP hS => ?_)
      refine x_gen hP (fun v1 e1 hP => ?_)
      have h_out : v1 t = .inl (cy 7, 1, .inr (.inl f0)) := by rw [e1]; exact (gw_out (by omega)).trans ((gw_out (by omega)).trans ((hw_out (by omega)).trans ht0))
      have hfo : ∀ a, (a < o ∨ o + 118 ≤ a) → v1 a = w a := fun a ha => by rw [e1]; exact (gw_out (by omega)).trans ((gw_out (by omega)).trans (hw_out (by omega)))
      refine x_top (v' := (0 : Int32)) (by rw [may_0 xi (by omega)]; exact if_pos (Int32.lt_of_lt_of_le (by decide) g1.1)) ?_
      refine lv_i2l hx hb dL_lift_8 rfl ?_
      refine x_topl (v' := 0) (by decide +kernel) ?_
      refine x_last hx hb hK.1 hP hS (by omega) (by omega) 7 h_out rfl (cl_of_nI (i := 0) rfl (by omega)) (vp_in_of_nI (i := 0) rfl (by omega) (by omega)) dL_lift_9 (fun H locs hP hS => ?_)
      refine lv_goto (tgt := 21) hx hb dL_lift_10 (by decide) ?_
      refine lv_iconst (v := 0) hx hb dL_lift_21 (by decide) ?_
      have eS : r_lift (nI xi) y = (0, 0) := by unfold r_lift; rw [if_pos g0, if_pos g1]
      refine x_szn (by omega) (by omega) hP (fun hzH => ?_)
      refine W.widen (k := 1) (n := 6) (by omega) (by omega) ?_
      exact W.iret (v := (0 : Int32)) hx hb hr (fun tE ht hW => ⟨⟨(0 : Int32), (va_up v1 t (.inl (cy 7, 1, .inr (.inl (vp_updL f0 0 (0 : Int64)))))), rfl, ⟨by rw [eS], ⟨_, xu_same _ _ _, fun _ => by rw [eS]; first | rfl | (simp [vp_updL]; done) | (simp [vp_updL]; decide)⟩, fun a h8 h9 => (xu_ne h9).trans (hfo a h8)⟩, x_at ht hP, fun _ => by rw [ht]; exact hzH⟩, hS.F ht⟩) hS.2.2 dL_lift_22
    · refine y_catch (vx_runV (As := [.int (nI xi), .int y]) (rest := [.int (0 : Int32), .ref t]) ⟨hx, hb, hml, hown, hts⟩ (c_X6_lift_x2 l hfl D cy lo n w o G0 G0 P0 (by omega) (by omega) rfl xi (by omega) y g1) (cwV 2 hts gL_lift_X6_lift rfl rfl rfl (by decide +kernel) ⟨Nat.le_of_ble_eq_true rfl, Nat.le_of_ble_eq_true rfl⟩) (preVX hP hK hX hZ hS (x_recv (ci := 6) (q := (RX6, TX6, 11)) hK.1 hP (by omega) (by omega) rfl pwx_0)) rfl rfl hl.1 rfl (lv_room (Nat.le_of_ble_eq_true rfl)) dL_lift_5 ⟨Nat.le_of_ble_eq_true rfl, Nat.le_of_ble_eq_true rfl⟩) hS hown [⟨0, 10, 13, 13⟩] ⟨0, 10, 17, 15⟩ [] (by rw [htab]; rfl) (fun z hz => by rcases List.mem_cons.mp hz with rfl | hz; exact Or.inr ⟨by decide, IOB, (hts (.classLink RL 13 IOB) (by decide +kernel)), hY.2.2⟩; exact nomatch hz) (by decide) (by decide) (hts (.classLink RL 15 IAE) (by decide +kernel)) (va_Nw.use rfl hY.2.1) (fun q9 H locs hP hS => ?_)
      refine lv_astore (lv' := [(4, .ref q9), (0, .ref o), (1, .int (nI xi)), (2, .int y), (3, .ref t)]) hx hb dL_lift_17 hl (by decide) rfl (fun ls hl => ?_)
      refine lv_iconst (v := 2) hx hb dL_lift_19 (by decide) ?_
      have eS : r_lift (nI xi) y = (2, 0) := by unfold r_lift; rw [if_pos g0, if_neg g1]
      exact W.iret (v := (2 : Int32)) hx hb hr (fun tE ht hW => ⟨⟨(2 : Int32), (gw cy (gw cy (hw cy w o P0) (o + 50) G0) (o + 1) G0), rfl, ⟨by rw [eS], ⟨f0, ht6, fun h0 => absurd h0 (by rw [eS]; decide)⟩, fun a h8 h9 => (gw_out (by omega)).trans ((gw_out (by omega)).trans (hw_out (by omega)))⟩, x_at ht hP, fun h0 => absurd h0 (by rw [eS]; decide)⟩, hS.F ht⟩) hS.2.2 dL_lift_20
  · refine y_catch (vx_runV (As := [.int x, .int y]) (rest := [.int (0 : Int32), .ref t]) ⟨hx, hb, hml, hown, hts⟩ (c_X6_lift_x1 l hfl D cy lo n w o G0 G0 P0 (by omega) (by omega) rfl x y g0) (cwV 2 hts gL_lift_X6_lift rfl rfl rfl (by decide +kernel) ⟨Nat.le_of_ble_eq_true rfl, Nat.le_of_ble_eq_true rfl⟩) (preVX hP hK hX hZ hS (x_recv (ci := 6) (q := (RX6, TX6, 11)) hK.1 hP (by omega) (by omega) rfl pwx_0)) rfl rfl hl.1 rfl (lv_room (Nat.le_of_ble_eq_true rfl)) dL_lift_5 ⟨Nat.le_of_ble_eq_true rfl, Nat.le_of_ble_eq_true rfl⟩) hS hown [] ⟨0, 10, 13, 13⟩ [⟨0, 10, 17, 15⟩] (by rw [htab]; rfl) (fun z hz => nomatch hz) (by decide) (by decide) (hts (.classLink RL 13 IOB) (by decide +kernel)) (va_Nw.use rfl hY.1) (fun q9 H locs hP hS => ?_)
    refine lv_astore (lv' := [(4, .ref q9), (0, .ref o), (1, .int x), (2, .int y), (3, .ref t)]) hx hb dL_lift_13 hl (by decide) rfl (fun ls hl => ?_)
    refine lv_iconst (v := 1) hx hb dL_lift_15 (by decide) ?_
    have eS : r_lift x y = (1, 0) := by unfold r_lift; rw [if_neg g0]
    exact W.iret (v := (1 : Int32)) hx hb hr (fun tE ht hW => ⟨⟨(1 : Int32), (gw cy (gw cy (hw cy w o P0) (o + 50) G0) (o + 1) G0), rfl, ⟨by rw [eS], ⟨f0, ht6, fun h0 => absurd h0 (by rw [eS]; decide)⟩, fun a h8 h9 => (gw_out (by omega)).trans ((gw_out (by omega)).trans (hw_out (by omega)))⟩, x_at ht hP, fun h0 => absurd h0 (by rw [eS]; decide)⟩, hS.F ht⟩) hS.2.2 dL_lift_16

set_option maxRecDepth 100000 in
set_option maxHeartbeats 1000000 in
theorem c_L_ofCell (l : Launch) (hfl : l.stackTraces = false) (D : va_G) (cy : Nat → ClassId) (lo n : Nat) (w : Nat → va_E) (o t : Nat) (ho1 : lo ≤ o) (ho2 : o + 118 ≤ lo + n) (ht1 : lo ≤ t) (ht2 : t < lo + n) (hto : t < o ∨ o + 118 ≤ t) (f0 : Nat → Int64) (ht0 : w t = .inl (cy 7, 1, .inr (.inl f0))) (x y : Int32) : Met l yL_ofCell wsL_ofCell ({ frames := 8, cells := 1, slots := 6, locals := 135 }) (PcY D cy lo n (gw cy (gw cy (hw cy w o P0) (o + 50) G0) (o + 1) G0) [.ref o, .int x, .int y, .ref t]) (QY D cy lo n o t w (r_ofCell x y)) 1 6 (fun q : Nat => lo ≤ q) := by
  refine va_MetW (cc := cL_ofCell) (maxL := 5) (ret := (some .int)) (hh := [(0, 10, 13, 13), (0, 10, 17, 15)]) (by decide) rfl ?_
  intro p e s m args below meth c s₁ B hml hv
  obtain ⟨rfl, hsz, hP, hK, hX, hZ, hY, hS⟩ := Y_entry hv
  have hx := B.exec
  have hb := B.bytes
  have hr := B.returns
  have hts := atoms_spec (ws := wsL_ofCell) B.pre
  have hown : s.vm.findClass RL = some m.cls := findClass_of_methodNamed B.named
  have hlocks := B.notSynchronized
  have htab : c.exceptionTable.toList = tableOf [(0, 10, 13, 13), (0, 10, 17, 15)] := vx_table (x := yL_ofCell) B (hts (.codeWith yL_ofCell cL_ofCell 5 (some .int) [(0, 10, 13, 13), (0, 10, 17, 15)]) (by exact List.mem_cons_self))
  have ht6 : (gw cy (gw cy (hw cy w o P0) (o + 50) G0) (o + 1) G0) t = .inl (cy 7, 1, .inr (.inl f0)) := (gw_out (by omega)).trans ((gw_out (by omega)).trans ((hw_out (by omega)).trans ht0))
  have hl := lv_entry ([.ref o, .int x, .int y, .ref t]) (n := 5) (Nat.le_of_ble_eq_true rfl)
  rw [lg_entry_eq]
  generalize (lg_sl ([.ref o, .int x, .int y, .ref t]) ++ List.replicate (5 - (lg_sl ([.ref o, .int x, .int y, .ref t])).length) Slot.unset).toArray = ls at hl ⊢
  have hl : lv_has ls 5 [(0, .ref o), (1, .int x), (2, .int y), (3, .ref t)] := hl
  refine lv_aload_n hx hb dL_ofCell_0 rfl (lv_at hl 3 rfl) ?_
  refine lv_iconst (v := 0) hx hb dL_ofCell_1 (by decide) ?_
  refine lv_aload_n hx hb dL_ofCell_2 rfl (lv_at hl 0 rfl) ?_
  refine lv_iload_n hx hb dL_ofCell_3 rfl (lv_at hl 1 rfl) ?_
  refine lv_iload_n hx hb dL_ofCell_4 rfl (lv_at hl 2 rfl) ?_
  by_cases g0 : (0 ≤ x ∧ x ≤ 15)
  · obtain ⟨xi, h_xi, e_xi⟩ := nI_of2 (n := 15) (by decide) (Int32.not_lt.mpr (Int32.le_trans (by decide) g0.1)) g0.2
    subst e_xi
    by_cases g1 : (0 ≤ y ∧ y ≤ 4)
    · obtain ⟨yi, h_yi, e_yi⟩ := nI_of2 (n := 4) (by decide) (Int32.not_lt.mpr (Int32.le_trans (by decide) g1.1)) g1.2
      subst e_yi
      refine x_calli (va_runV (As := [.int (nI xi), .int (nI yi)]) (rest := [.int (0 : Int32), .ref t]) ⟨hx, hb, hml, hown, hts⟩ (c_X6_ofCell l D cy lo n w o G0 G0 P0 (by omega) (by omega) 0 gi_G0 xi (by omega) yi (by omega)) (cwV 2 hts gL_ofCell_X6_ofCell rfl rfl rfl (by decide +kernel) ⟨Nat.le_of_ble_eq_true rfl, Nat.le_of_ble_eq_true rfl⟩) (preV hP hK (x_recv (ci := 6) (q := (RX6, TX6, 11)) hK.1 hP (by omega) (by omega) rfl pwx_0)) rfl rfl hl.1 rfl (lv_room (Nat.le_of_ble_eq_true rfl)) dL_ofCell_5 ⟨Nat.le_of_ble_eq_true rfl, Nat.le_of_ble_eq_true rfl⟩) hS (fun H locs hP hS => ?_)
      refine x_gen hP (fun v1 e1 hP => ?_)
      have h_out : v1 t = .inl (cy 7, 1, .inr (.inl f0)) := by rw [e1]; exact (gw_out (by omega)).trans ((gw_out (by omega)).trans ((hw_out (by omega)).trans ht0))
      have hfo : ∀ a, (a < o ∨ o + 118 ≤ a) → v1 a = w a := fun a ha => by rw [e1]; exact (gw_out (by omega)).trans ((gw_out (by omega)).trans (hw_out (by omega)))
      refine x_top (v' := (if (nI yi) = 0 then 40 else 0 : Int32)) (ofCell_1 xi (by omega) yi (by omega)) ?_
      refine lv_i2l hx hb dL_ofCell_8 rfl ?_
      refine x_last hx hb hK.1 hP hS (by omega) (by omega) 7 h_out rfl (cl_of_nI (i := 0) rfl (by omega)) (vp_in_of_nI (i := 0) rfl (by omega) (by omega)) dL_ofCell_9 (fun H locs hP hS => ?_)
      refine lv_goto (tgt := 21) hx hb dL_ofCell_10 (by decide) ?_
      refine lv_iconst (v := 0) hx hb dL_ofCell_21 (by decide) ?_
      have eS : r_ofCell (nI xi) (nI yi) = (0, (if (nI yi) = 0 then 40 else 0 : Int32)) := by unfold r_ofCell; rw [if_pos g0, if_pos g1]
      refine x_szn (by omega) (by omega) hP (fun hzH => ?_)
      refine W.widen (k := 1) (n := 6) (by omega) (by omega) ?_
      exact W.iret (v := (0 : Int32)) hx hb hr (fun tE ht hW => ⟨⟨(0 : Int32), (va_up v1 t (.inl (cy 7, 1, .inr (.inl (vp_updL f0 0 ((if (nI yi) = 0 then 40 else 0 : Int32).toInt64)))))), rfl, ⟨by rw [eS], ⟨_, xu_same _ _ _, fun _ => by rw [eS]; first | rfl | (simp [vp_updL]; done) | (simp [vp_updL]; decide)⟩, fun a h8 h9 => (xu_ne h9).trans (hfo a h8)⟩, x_at ht hP, fun _ => by rw [ht]; exact hzH⟩, hS.F ht⟩) hS.2.2 dL_ofCell_22
    · refine y_catch (vx_runV (As := [.int (nI xi), .int y]) (rest := [.int (0 : Int32), .ref t]) ⟨hx, hb, hml, hown, hts⟩ (c_X6_ofCell_x2 l hfl D cy lo n w o G0 G0 P0 (by omega) (by omega) rfl xi (by omega) y g1) (cwV 2 hts gL_ofCell_X6_ofCell rfl rfl rfl (by decide +kernel) ⟨Nat.le_of_ble_eq_true rfl, Nat.le_of_ble_eq_true rfl⟩) (preVX hP hK hX hZ hS (x_recv (ci := 6) (q := (RX6, TX6, 11)) hK.1 hP (by omega) (by omega) rfl pwx_0)) rfl rfl hl.1 rfl (lv_room (Nat.le_of_ble_eq_true rfl)) dL_ofCell_5 ⟨Nat.le_of_ble_eq_true rfl, Nat.le_of_ble_eq_true rfl⟩) hS hown [⟨0, 10, 13, 13⟩] ⟨0, 10, 17, 15⟩ [] (by rw [htab]; rfl) (fun z hz => by rcases List.mem_cons.mp hz with rfl | hz; exact Or.inr ⟨by decide, IOB, (hts (.classLink RL 13 IOB) (by decide +kernel)), hY.2.2⟩; exact nomatch hz) (by decide) (by decide) (hts (.classLink RL 15 IAE) (by decide +kernel)) (va_Nw.use rfl hY.2.1) (fun q9 H locs hP hS => ?_)
      refine lv_astore (lv' := [(4, .ref q9), (0, .ref o), (1, .int (nI xi)), (2, .int y), (3, .ref t)]) hx hb dL_ofCell_17 hl (by decide) rfl (fun ls hl => ?_)
      refine lv_iconst (v := 2) hx hb dL_ofCell_19 (by decide) ?_
      have eS : r_ofCell (nI xi) y = (2, 0) := by unfold r_ofCell; rw [if_pos g0, if_neg g1]
      exact W.iret (v := (2 : Int32)) hx hb hr (fun tE ht hW => ⟨⟨(2 : Int32), (gw cy (gw cy (hw cy w o P0) (o + 50) G0) (o + 1) G0), rfl, ⟨by rw [eS], ⟨f0, ht6, fun h0 => absurd h0 (by rw [eS]; decide)⟩, fun a h8 h9 => (gw_out (by omega)).trans ((gw_out (by omega)).trans (hw_out (by omega)))⟩, x_at ht hP, fun h0 => absurd h0 (by rw [eS]; decide)⟩, hS.F ht⟩) hS.2.2 dL_ofCell_20
  · refine y_catch (vx_runV (As := [.int x, .int y]) (rest := [.int (0 : Int32), .ref t]) ⟨hx, hb, hml, hown, hts⟩ (c_X6_ofCell_x1 l hfl D cy lo n w o G0 G0 P0 (by omega) (by omega) rfl x y g0) (cwV 2 hts gL_ofCell_X6_ofCell rfl rfl rfl (by decide +kernel) ⟨Nat.le_of_ble_eq_true rfl, Nat.le_of_ble_eq_true rfl⟩) (preVX hP hK hX hZ hS (x_recv (ci := 6) (q := (RX6, TX6, 11)) hK.1 hP (by omega) (by omega) rfl pwx_0)) rfl rfl hl.1 rfl (lv_room (Nat.le_of_ble_eq_true rfl)) dL_ofCell_5 ⟨Nat.le_of_ble_eq_true rfl, Nat.le_of_ble_eq_true rfl⟩) hS hown [] ⟨0, 10, 13, 13⟩ [⟨0, 10, 17, 15⟩] (by rw [htab]; rfl) (fun z hz => nomatch hz) (by decide) (by decide) (hts (.classLink RL 13 IOB) (by decide +kernel)) (va_Nw.use rfl hY.1) (fun q9 H locs hP hS => ?_)
    refine lv_astore (lv' := [(4, .ref q9), (0, .ref o), (1, .int x), (2, .int y), (3, .ref t)]) hx hb dL_ofCell_13 hl (by decide) rfl (fun ls hl => ?_)
    refine lv_iconst (v := 1) hx hb dL_ofCell_15 (by decide) ?_
    have eS : r_ofCell x y = (1, 0) := by unfold r_ofCell; rw [if_neg g0]
    exact W.iret (v := (1 : Int32)) hx hb hr (fun tE ht hW => ⟨⟨(1 : Int32), (gw cy (gw cy (hw cy w o P0) (o + 50) G0) (o + 1) G0), rfl, ⟨by rw [eS], ⟨f0, ht6, fun h0 => absurd h0 (by rw [eS]; decide)⟩, fun a h8 h9 => (gw_out (by omega)).trans ((gw_out (by omega)).trans (hw_out (by omega)))⟩, x_at ht hP, fun h0 => absurd h0 (by rw [eS]; decide)⟩, hS.F ht⟩) hS.2.2 dL_ofCell_16

set_option maxRecDepth 100000 in
set_option maxHeartbeats 1000000 in
theorem c_L_ofPartner (l : Launch) (hfl : l.stackTraces = false) (D : va_G) (cy : Nat → ClassId) (lo n : Nat) (w : Nat → va_E) (o t : Nat) (ho1 : lo ≤ o) (ho2 : o + 118 ≤ lo + n) (ht1 : lo ≤ t) (ht2 : t < lo + n) (hto : t < o ∨ o + 118 ≤ t) (f0 : Nat → Int64) (ht0 : w t = .inl (cy 7, 1, .inr (.inl f0))) (x y : Int32) : Met l yL_ofPartner wsL_ofPartner ({ frames := 8, cells := 1, slots := 6, locals := 135 }) (PcY D cy lo n (gw cy (gw cy (hw cy w o P0) (o + 50) G0) (o + 1) G0) [.ref o, .int x, .int y, .ref t]) (QY D cy lo n o t w (r_ofPartner x y)) 1 6 (fun q : Nat => lo ≤ q) := by
  refine va_MetW (cc := cL_ofPartner) (maxL := 5) (ret := (some .int)) (hh := [(0, 10, 13, 13), (0, 10, 17, 15)]) (by decide) rfl ?_
  intro p e s m args below meth c s₁ B hml hv
  obtain ⟨rfl, hsz, hP, hK, hX, hZ, hY, hS⟩ := Y_entry hv
  have hx := B.exec
  have hb := B.bytes
  have hr := B.returns
  have hts := atoms_spec (ws := wsL_ofPartner) B.pre
  have hown : s.vm.findClass RL = some m.cls := findClass_of_methodNamed B.named
  have hlocks := B.notSynchronized
  have htab : c.exceptionTable.toList = tableOf [(0, 10, 13, 13), (0, 10, 17, 15)] := vx_table (x := yL_ofPartner) B (hts (.codeWith yL_ofPartner cL_ofPartner 5 (some .int) [(0, 10, 13, 13), (0, 10, 17, 15)]) (by exact List.mem_cons_self))
  have ht6 : (gw cy (gw cy (hw cy w o P0) (o + 50) G0) (o + 1) G0) t = .inl (cy 7, 1, .inr (.inl f0)) := (gw_out (by omega)).trans ((gw_out (by omega)).trans ((hw_out (by omega)).trans ht0))
  have hl := lv_entry ([.ref o, .int x, .int y, .ref t]) (n := 5) (Nat.le_of_ble_eq_true rfl)
  rw [lg_entry_eq]
  generalize (lg_sl ([.ref o, .int x, .int y, .ref t]) ++ List.replicate (5 - (lg_sl ([.ref o, .int x, .int y, .ref t])).length) Slot.unset).toArray = ls at hl ⊢
  have hl : lv_has ls 5 [(0, .ref o), (1, .int x), (2, .int y), (3, .ref t)] := hl
  refine lv_aload_n hx hb dL_ofPartner_0 rfl (lv_at hl 3 rfl) ?_
  refine lv_iconst (v := 0) hx hb dL_ofPartner_1 (by decide) ?_
  refine lv_aload_n hx hb dL_ofPartner_2 rfl (lv_at hl 0 rfl) ?_
  refine lv_iload_n hx hb dL_ofPartner_3 rfl (lv_at hl 1 rfl) ?_
  refine lv_iload_n hx hb dL_ofPartner_4 rfl (lv_at hl 2 rfl) ?_
  by_cases g0 : (0 ≤ x ∧ x ≤ 2)
  · obtain ⟨xi, h_xi, e_xi⟩ := nI_of2 (n := 2) (by decide) (Int32.not_lt.mpr (Int32.le_trans (by decide) g0.1)) g0.2
    subst e_xi
    by_cases g1 : (0 ≤ y ∧ y ≤ 3)
    · obtain ⟨yi, h_yi, e_yi⟩ := nI_of2 (n := 3) (by decide) (Int32.not_lt.mpr (Int32.le_trans (by decide) g1.1)) g1.2
      subst e_yi
      refine x_calli (va_runV (As := [.int (nI xi), .int (nI yi)]) (rest := [.int (0 : Int32), .ref t]) ⟨hx, hb, hml, hown, hts⟩ (c_X6_ofPartner l D cy lo n w o G0 G0 P0 (by omega) (by omega) xi (by omega) yi (by omega)) (cwV 2 hts gL_ofPartner_X6_ofPartner rfl rfl rfl (by decide +kernel) ⟨Nat.le_of_ble_eq_true rfl, Nat.le_of_ble_eq_true rfl⟩) (preV hP hK (x_recv (ci := 6) (q := (RX6, TX6, 11)) hK.1 hP (by omega) (by omega) rfl pwx_0)) rfl rfl hl.1 rfl (lv_room (Nat.le_of_ble_eq_true rfl)) dL_ofPartner_5 ⟨Nat.le_of_ble_eq_true rfl, Nat.le_of_ble_eq_true rfl⟩) hS (fun H locs hP hS => ?_)
      refine x_gen hP (fun v1 e1 hP => ?_)
      have h_out : v1 t = .inl (cy 7, 1, .inr (.inl f0)) := by rw [e1]; exact (gw_out (by omega)).trans ((gw_out (by omega)).trans ((hw_out (by omega)).trans ht0))
      have hfo : ∀ a, (a < o ∨ o + 118 ≤ a) → v1 a = w a := fun a ha => by rw [e1]; exact (gw_out (by omega)).trans ((gw_out (by omega)).trans (hw_out (by omega)))
      refine x_top (v' := (if (nI xi) = 0 ∧ (nI yi) = 0 then 100 else 0 : Int32)) (ofPart_1 xi (by omega) yi (by omega)) ?_
      refine lv_i2l hx hb dL_ofPartner_8 rfl ?_
      refine x_last hx hb hK.1 hP hS (by omega) (by omega) 7 h_out rfl (cl_of_nI (i := 0) rfl (by omega)) (vp_in_of_nI (i := 0) rfl (by omega) (by omega)) dL_ofPartner_9 (fun H locs hP hS => ?_)
      refine lv_goto (tgt := 21) hx hb dL_ofPartner_10 (by decide) ?_
      refine lv_iconst (v := 0) hx hb dL_ofPartner_21 (by decide) ?_
      have eS : r_ofPartner (nI xi) (nI yi) = (0, (if (nI xi) = 0 ∧ (nI yi) = 0 then 100 else 0 : Int32)) := by unfold r_ofPartner; rw [if_pos g0, if_pos g1]
      refine x_szn (by omega) (by omega) hP (fun hzH => ?_)
      refine W.widen (k := 1) (n := 6) (by omega) (by omega) ?_
      exact W.iret (v := (0 : Int32)) hx hb hr (fun tE ht hW => ⟨⟨(0 : Int32), (va_up v1 t (.inl (cy 7, 1, .inr (.inl (vp_updL f0 0 ((if (nI xi) = 0 ∧ (nI yi) = 0 then 100 else 0 : Int32).toInt64)))))), rfl, ⟨by rw [eS], ⟨_, xu_same _ _ _, fun _ => by rw [eS]; first | rfl | (simp [vp_updL]; done) | (simp [vp_updL]; decide)⟩, fun a h8 h9 => (xu_ne h9).trans (hfo a h8)⟩, x_at ht hP, fun _ => by rw [ht]; exact hzH⟩, hS.F ht⟩) hS.2.2 dL_ofPartner_22
    · refine y_catch (vx_runV (As := [.int (nI xi), .int y]) (rest := [.int (0 : Int32), .ref t]) ⟨hx, hb, hml, hown, hts⟩ (c_X6_ofPartner_x2 l hfl D cy lo n w o G0 G0 P0 (by omega) (by omega) rfl xi (by omega) y g1) (cwV 2 hts gL_ofPartner_X6_ofPartner rfl rfl rfl (by decide +kernel) ⟨Nat.le_of_ble_eq_true rfl, Nat.le_of_ble_eq_true rfl⟩) (preVX hP hK hX hZ hS (x_recv (ci := 6) (q := (RX6, TX6, 11)) hK.1 hP (by omega) (by omega) rfl pwx_0)) rfl rfl hl.1 rfl (lv_room (Nat.le_of_ble_eq_true rfl)) dL_ofPartner_5 ⟨Nat.le_of_ble_eq_true rfl, Nat.le_of_ble_eq_true rfl⟩) hS hown [⟨0, 10, 13, 13⟩] ⟨0, 10, 17, 15⟩ [] (by rw [htab]; rfl) (fun z hz => by rcases List.mem_cons.mp hz with rfl | hz; exact Or.inr ⟨by decide, IOB, (hts (.classLink RL 13 IOB) (by decide +kernel)), hY.2.2⟩; exact nomatch hz) (by decide) (by decide) (hts (.classLink RL 15 IAE) (by decide +kernel)) (va_Nw.use rfl hY.2.1) (fun q9 H locs hP hS => ?_)
      refine lv_astore (lv' := [(4, .ref q9), (0, .ref o), (1, .int (nI xi)), (2, .int y), (3, .ref t)]) hx hb dL_ofPartner_17 hl (by decide) rfl (fun ls hl => ?_)
      refine lv_iconst (v := 2) hx hb dL_ofPartner_19 (by decide) ?_
      have eS : r_ofPartner (nI xi) y = (2, 0) := by unfold r_ofPartner; rw [if_pos g0, if_neg g1]
      exact W.iret (v := (2 : Int32)) hx hb hr (fun tE ht hW => ⟨⟨(2 : Int32), (gw cy (gw cy (hw cy w o P0) (o + 50) G0) (o + 1) G0), rfl, ⟨by rw [eS], ⟨f0, ht6, fun h0 => absurd h0 (by rw [eS]; decide)⟩, fun a h8 h9 => (gw_out (by omega)).trans ((gw_out (by omega)).trans (hw_out (by omega)))⟩, x_at ht hP, fun h0 => absurd h0 (by rw [eS]; decide)⟩, hS.F ht⟩) hS.2.2 dL_ofPartner_20
  · refine y_catch (vx_runV (As := [.int x, .int y]) (rest := [.int (0 : Int32), .ref t]) ⟨hx, hb, hml, hown, hts⟩ (c_X6_ofPartner_x1 l hfl D cy lo n w o G0 G0 P0 (by omega) (by omega) rfl x y g0) (cwV 2 hts gL_ofPartner_X6_ofPartner rfl rfl rfl (by decide +kernel) ⟨Nat.le_of_ble_eq_true rfl, Nat.le_of_ble_eq_true rfl⟩) (preVX hP hK hX hZ hS (x_recv (ci := 6) (q := (RX6, TX6, 11)) hK.1 hP (by omega) (by omega) rfl pwx_0)) rfl rfl hl.1 rfl (lv_room (Nat.le_of_ble_eq_true rfl)) dL_ofPartner_5 ⟨Nat.le_of_ble_eq_true rfl, Nat.le_of_ble_eq_true rfl⟩) hS hown [] ⟨0, 10, 13, 13⟩ [⟨0, 10, 17, 15⟩] (by rw [htab]; rfl) (fun z hz => nomatch hz) (by decide) (by decide) (hts (.classLink RL 13 IOB) (by decide +kernel)) (va_Nw.use rfl hY.1) (fun q9 H locs hP hS => ?_)
    refine lv_astore (lv' := [(4, .ref q9), (0, .ref o), (1, .int x), (2, .int y), (3, .ref t)]) hx hb dL_ofPartner_13 hl (by decide) rfl (fun ls hl => ?_)
    refine lv_iconst (v := 1) hx hb dL_ofPartner_15 (by decide) ?_
    have eS : r_ofPartner x y = (1, 0) := by unfold r_ofPartner; rw [if_neg g0]
    exact W.iret (v := (1 : Int32)) hx hb hr (fun tE ht hW => ⟨⟨(1 : Int32), (gw cy (gw cy (hw cy w o P0) (o + 50) G0) (o + 1) G0), rfl, ⟨by rw [eS], ⟨f0, ht6, fun h0 => absurd h0 (by rw [eS]; decide)⟩, fun a h8 h9 => (gw_out (by omega)).trans ((gw_out (by omega)).trans (hw_out (by omega)))⟩, x_at ht hP, fun h0 => absurd h0 (by rw [eS]; decide)⟩, hS.F ht⟩) hS.2.2 dL_ofPartner_16

set_option maxRecDepth 100000 in
set_option maxHeartbeats 1000000 in
theorem c_L_shares (l : Launch) (hfl : l.stackTraces = false) (D : va_G) (cy : Nat → ClassId) (lo n : Nat) (w : Nat → va_E) (o t : Nat) (ho1 : lo ≤ o) (ho2 : o + 118 ≤ lo + n) (ht1 : lo ≤ t) (ht2 : t < lo + n) (hto : t < o ∨ o + 118 ≤ t) (f0 : Nat → Int64) (ht0 : w t = .inl (cy 7, 1, .inr (.inl f0))) (x y : Int32) : Met l yL_shares wsL_shares ({ frames := 8, cells := 1, slots := 6, locals := 134 }) (PcY D cy lo n (gw cy (gw cy (hw cy w o P0) (o + 50) G0) (o + 1) G0) [.ref o, .int x, .int y, .ref t]) (QY D cy lo n o t w (r_shares x y)) 1 6 (fun q : Nat => lo ≤ q) := by
  refine va_MetW (cc := cL_shares) (maxL := 5) (ret := (some .int)) (hh := [(0, 10, 13, 15)]) (by decide) rfl ?_
  intro p e s m args below meth c s₁ B hml hv
  obtain ⟨rfl, hsz, hP, hK, hX, hZ, hY, hS⟩ := Y_entry hv
  have hx := B.exec
  have hb := B.bytes
  have hr := B.returns
  have hts := atoms_spec (ws := wsL_shares) B.pre
  have hown : s.vm.findClass RL = some m.cls := findClass_of_methodNamed B.named
  have hlocks := B.notSynchronized
  have htab : c.exceptionTable.toList = tableOf [(0, 10, 13, 15)] := vx_table (x := yL_shares) B (hts (.codeWith yL_shares cL_shares 5 (some .int) [(0, 10, 13, 15)]) (by exact List.mem_cons_self))
  have ht6 : (gw cy (gw cy (hw cy w o P0) (o + 50) G0) (o + 1) G0) t = .inl (cy 7, 1, .inr (.inl f0)) := (gw_out (by omega)).trans ((gw_out (by omega)).trans ((hw_out (by omega)).trans ht0))
  have hl := lv_entry ([.ref o, .int x, .int y, .ref t]) (n := 5) (Nat.le_of_ble_eq_true rfl)
  rw [lg_entry_eq]
  generalize (lg_sl ([.ref o, .int x, .int y, .ref t]) ++ List.replicate (5 - (lg_sl ([.ref o, .int x, .int y, .ref t])).length) Slot.unset).toArray = ls at hl ⊢
  have hl : lv_has ls 5 [(0, .ref o), (1, .int x), (2, .int y), (3, .ref t)] := hl
  refine lv_aload_n hx hb dL_shares_0 rfl (lv_at hl 3 rfl) ?_
  refine lv_iconst (v := 0) hx hb dL_shares_1 (by decide) ?_
  refine lv_aload_n hx hb dL_shares_2 rfl (lv_at hl 0 rfl) ?_
  refine lv_iload_n hx hb dL_shares_3 rfl (lv_at hl 1 rfl) ?_
  refine lv_iload_n hx hb dL_shares_4 rfl (lv_at hl 2 rfl) ?_
  by_cases g0 : ((0 ≤ x ∧ x ≤ 100) ∧ (0 ≤ y ∧ y ≤ 100 - x))
  · refine x_calli (va_runV (As := [.int x, .int y]) (rest := [.int (0 : Int32), .ref t]) ⟨hx, hb, hml, hown, hts⟩ (c_X6_shares l D cy lo n w o G0 G0 P0 (by omega) (by omega) x y g0.1.1 g0.1.2 g0.2.1 g0.2.2) (cwV 2 hts gL_shares_X6_shares rfl rfl rfl (by decide +kernel) ⟨Nat.le_of_ble_eq_true rfl, Nat.le_of_ble_eq_true rfl⟩) (preV hP hK (x_recv (ci := 6) (q := (RX6, TX6, 11)) hK.1 hP (by omega) (by omega) rfl pwx_0)) rfl rfl hl.1 rfl (lv_room (Nat.le_of_ble_eq_true rfl)) dL_shares_5 ⟨Nat.le_of_ble_eq_true rfl, Nat.le_of_ble_eq_true rfl⟩) hS (fun H locs hP hS => ?_)
    refine x_gen hP (fun v1 e1 hP => ?_)
    have h_out : v1 t = .inl (cy 7, 1, .inr (.inl f0)) := by rw [e1]; exact (gw_out (by omega)).trans ((gw_out (by omega)).trans ((hw_out (by omega)).trans ht0))
    have hfo : ∀ a, (a < o ∨ o + 118 ≤ a) → v1 a = w a := fun a ha => by rw [e1]; exact (gw_out (by omega)).trans ((gw_out (by omega)).trans (hw_out (by omega)))
    refine x_top (v' := (100 - x - y : Int32)) rfl ?_
    refine lv_i2l hx hb dL_shares_8 rfl ?_
    refine x_last hx hb hK.1 hP hS (by omega) (by omega) 7 h_out rfl (cl_of_nI (i := 0) rfl (by omega)) (vp_in_of_nI (i := 0) rfl (by omega) (by omega)) dL_shares_9 (fun H locs hP hS => ?_)
    refine lv_goto (tgt := 17) hx hb dL_shares_10 (by decide) ?_
    refine lv_iconst (v := 0) hx hb dL_shares_17 (by decide) ?_
    have eS : r_shares x y = (0, (100 - x - y : Int32)) := by unfold r_shares; rw [if_neg (Int32.not_lt.mpr g0.1.1), if_neg (Int32.not_lt.mpr g0.2.1), if_neg (Int32.not_lt.mpr g0.1.2), if_pos g0.2.2]
    refine x_szn (by omega) (by omega) hP (fun hzH => ?_)
    refine W.widen (k := 1) (n := 6) (by omega) (by omega) ?_
    exact W.iret (v := (0 : Int32)) hx hb hr (fun tE ht hW => ⟨⟨(0 : Int32), (va_up v1 t (.inl (cy 7, 1, .inr (.inl (vp_updL f0 0 ((100 - x - y : Int32).toInt64)))))), rfl, ⟨by rw [eS], ⟨_, xu_same _ _ _, fun _ => by rw [eS]; first | rfl | (simp [vp_updL]; done) | (simp [vp_updL]; decide)⟩, fun a h8 h9 => (xu_ne h9).trans (hfo a h8)⟩, x_at ht hP, fun _ => by rw [ht]; exact hzH⟩, hS.F ht⟩) hS.2.2 dL_shares_18
  · refine y_catch (vx_runV (As := [.int x, .int y]) (rest := [.int (0 : Int32), .ref t]) ⟨hx, hb, hml, hown, hts⟩ (c_X6_shares_x1 l hfl D cy lo n w o G0 G0 P0 (by omega) (by omega) rfl x y g0) (cwV 2 hts gL_shares_X6_shares rfl rfl rfl (by decide +kernel) ⟨Nat.le_of_ble_eq_true rfl, Nat.le_of_ble_eq_true rfl⟩) (preVX hP hK hX hZ hS (x_recv (ci := 6) (q := (RX6, TX6, 11)) hK.1 hP (by omega) (by omega) rfl pwx_0)) rfl rfl hl.1 rfl (lv_room (Nat.le_of_ble_eq_true rfl)) dL_shares_5 ⟨Nat.le_of_ble_eq_true rfl, Nat.le_of_ble_eq_true rfl⟩) hS hown [] ⟨0, 10, 13, 15⟩ [] (by rw [htab]; rfl) (fun z hz => nomatch hz) (by decide) (by decide) (hts (.classLink RL 15 IAE) (by decide +kernel)) (va_Nw.use rfl hY.2.1) (fun q9 H locs hP hS => ?_)
    refine lv_astore (lv' := [(4, .ref q9), (0, .ref o), (1, .int x), (2, .int y), (3, .ref t)]) hx hb dL_shares_13 hl (by decide) rfl (fun ls hl => ?_)
    refine lv_iconst (v := 1) hx hb dL_shares_15 (by decide) ?_
    have eS : r_shares x y = (1, 0) := by unfold r_shares; (repeat' split) <;> first | rfl | exact absurd ⟨⟨Int32.not_lt.mp (by assumption), Int32.not_lt.mp (by assumption)⟩, ⟨Int32.not_lt.mp (by assumption), by assumption⟩⟩ g0
    exact W.iret (v := (1 : Int32)) hx hb hr (fun tE ht hW => ⟨⟨(1 : Int32), (gw cy (gw cy (hw cy w o P0) (o + 50) G0) (o + 1) G0), rfl, ⟨by rw [eS], ⟨f0, ht6, fun h0 => absurd h0 (by rw [eS]; decide)⟩, fun a h8 h9 => (gw_out (by omega)).trans ((gw_out (by omega)).trans (hw_out (by omega)))⟩, x_at ht hP, fun h0 => absurd h0 (by rw [eS]; decide)⟩, hS.F ht⟩) hS.2.2 dL_shares_16

set_option maxRecDepth 100000 in
set_option maxHeartbeats 1000000 in
theorem c_L_cell (l : Launch) (hfl : l.stackTraces = false) (D : va_G) (cy : Nat → ClassId) (lo n : Nat) (w : Nat → va_E) (o t : Nat) (ho1 : lo ≤ o) (ho2 : o + 118 ≤ lo + n) (ht1 : lo ≤ t) (ht2 : t < lo + n) (hto : t < o ∨ o + 118 ≤ t) (f0 : Nat → Int64) (ht0 : w t = .inl (cy 7, 1, .inr (.inl f0))) (x y z za zb : Int32) : Met l yL_cell wsL_cell ({ frames := 8, cells := 1, slots := 6, locals := 138 }) (PcY D cy lo n (gw cy (gw cy (hw cy w o P0) (o + 50) G0) (o + 1) G0) [.ref o, .int x, .int y, .int z, .int za, .int zb, .ref t]) (QY D cy lo n o t w (r_cell x y z za zb)) 1 6 (fun q : Nat => lo ≤ q) := by
  refine va_MetW (cc := cL_cell) (maxL := 8) (ret := (some .int)) (hh := [(0, 16, 19, 13), (0, 16, 23, 15)]) (by decide) rfl ?_
  intro p e s m args below meth c s₁ B hml hv
  obtain ⟨rfl, hsz, hP, hK, hX, hZ, hY, hS⟩ := Y_entry hv
  have hx := B.exec
  have hb := B.bytes
  have hr := B.returns
  have hts := atoms_spec (ws := wsL_cell) B.pre
  have hown : s.vm.findClass RL = some m.cls := findClass_of_methodNamed B.named
  have hlocks := B.notSynchronized
  have htab : c.exceptionTable.toList = tableOf [(0, 16, 19, 13), (0, 16, 23, 15)] := vx_table (x := yL_cell) B (hts (.codeWith yL_cell cL_cell 8 (some .int) [(0, 16, 19, 13), (0, 16, 23, 15)]) (by exact List.mem_cons_self))
  have ht6 : (gw cy (gw cy (hw cy w o P0) (o + 50) G0) (o + 1) G0) t = .inl (cy 7, 1, .inr (.inl f0)) := (gw_out (by omega)).trans ((gw_out (by omega)).trans ((hw_out (by omega)).trans ht0))
  have hl := lv_entry ([.ref o, .int x, .int y, .int z, .int za, .int zb, .ref t]) (n := 8) (Nat.le_of_ble_eq_true rfl)
  rw [lg_entry_eq]
  generalize (lg_sl ([.ref o, .int x, .int y, .int z, .int za, .int zb, .ref t]) ++ List.replicate (8 - (lg_sl ([.ref o, .int x, .int y, .int z, .int za, .int zb, .ref t])).length) Slot.unset).toArray = ls at hl ⊢
  have hl : lv_has ls 8 [(0, .ref o), (1, .int x), (2, .int y), (3, .int z), (4, .int za), (5, .int zb), (6, .ref t)] := hl
  refine lv_aload hx hb dL_cell_0 (lv_at hl 6 rfl) ?_
  refine lv_iconst (v := 0) hx hb dL_cell_2 (by decide) ?_
  refine lv_aload_n hx hb dL_cell_3 rfl (lv_at hl 0 rfl) ?_
  refine lv_iload_n hx hb dL_cell_4 rfl (lv_at hl 1 rfl) ?_
  refine lv_iload_n hx hb dL_cell_5 rfl (lv_at hl 2 rfl) ?_
  refine lv_iload_n hx hb dL_cell_6 rfl (lv_at hl 3 rfl) ?_
  refine lv_iload hx hb dL_cell_7 (lv_at hl 4 rfl) ?_
  refine lv_iload hx hb dL_cell_9 (lv_at hl 5 rfl) ?_
  by_cases g0 : (0 ≤ x ∧ x ≤ 15)
  · obtain ⟨xi, h_xi, e_xi⟩ := nI_of2 (n := 15) (by decide) (Int32.not_lt.mpr (Int32.le_trans (by decide) g0.1)) g0.2
    subst e_xi
    by_cases g1 : ((10 ≤ y ∧ y ≤ 90) ∧ (0 ≤ z ∧ z ≤ 99) ∧ (0 ≤ za ∧ za ≤ 99) ∧ (0 ≤ zb ∧ zb ≤ 99))
    · refine x_calli (va_runV (As := [.int (nI xi), .int y, .int z, .int za, .int zb]) (rest := [.int (0 : Int32), .ref t]) ⟨hx, hb, hml, hown, hts⟩ (c_X6_cell l D cy lo n w o G0 G0 P0 (by omega) (by omega) xi (by omega) y z za zb g1.1.1 g1.1.2 g1.2.1.1 g1.2.1.2 g1.2.2.1.1 g1.2.2.1.2 g1.2.2.2.1 g1.2.2.2.2) (cwV 5 hts gL_cell_X6_cell rfl rfl rfl (by decide +kernel) ⟨Nat.le_of_ble_eq_true rfl, Nat.le_of_ble_eq_true rfl⟩) (preV hP hK (x_recv (ci := 6) (q := (RX6, TX6, 11)) hK.1 hP (by omega) (by omega) rfl pwx_0)) rfl rfl hl.1 rfl (lv_room (Nat.le_of_ble_eq_true rfl)) dL_cell_11 ⟨Nat.le_of_ble_eq_true rfl, Nat.le_of_ble_eq_true rfl⟩) hS (fun H locs hP hS => ?_)
      refine x_gen hP (fun v1 e1 hP => ?_)
      have h_out : v1 t = .inl (cy 7, 1, .inr (.inl f0)) := by rw [e1]; exact (gw_out (by omega)).trans ((gw_out (by omega)).trans ((hw_out (by omega)).trans ht0))
      have hfo : ∀ a, (a < o ∨ o + 118 ≤ a) → v1 a = w a := fun a ha => by rw [e1]; exact (gw_out (by omega)).trans ((gw_out (by omega)).trans (hw_out (by omega)))
      refine x_top (v' := (100 * (z + za + zb) / y : Int32)) cell_1 ?_
      refine lv_i2l hx hb dL_cell_14 rfl ?_
      refine x_last hx hb hK.1 hP hS (by omega) (by omega) 7 h_out rfl (cl_of_nI (i := 0) rfl (by omega)) (vp_in_of_nI (i := 0) rfl (by omega) (by omega)) dL_cell_15 (fun H locs hP hS => ?_)
      refine lv_goto (tgt := 27) hx hb dL_cell_16 (by decide) ?_
      refine lv_iconst (v := 0) hx hb dL_cell_27 (by decide) ?_
      have eS : r_cell (nI xi) y z za zb = (0, (100 * (z + za + zb) / y : Int32)) := by unfold r_cell; rw [if_pos g0, if_pos g1.1, if_pos g1.2.1, if_pos g1.2.2.1, if_pos g1.2.2.2]
      refine x_szn (by omega) (by omega) hP (fun hzH => ?_)
      refine W.widen (k := 1) (n := 6) (by omega) (by omega) ?_
      exact W.iret (v := (0 : Int32)) hx hb hr (fun tE ht hW => ⟨⟨(0 : Int32), (va_up v1 t (.inl (cy 7, 1, .inr (.inl (vp_updL f0 0 ((100 * (z + za + zb) / y : Int32).toInt64)))))), rfl, ⟨by rw [eS], ⟨_, xu_same _ _ _, fun _ => by rw [eS]; first | rfl | (simp [vp_updL]; done) | (simp [vp_updL]; decide)⟩, fun a h8 h9 => (xu_ne h9).trans (hfo a h8)⟩, x_at ht hP, fun _ => by rw [ht]; exact hzH⟩, hS.F ht⟩) hS.2.2 dL_cell_28
    · refine y_catch (vx_runV (As := [.int (nI xi), .int y, .int z, .int za, .int zb]) (rest := [.int (0 : Int32), .ref t]) ⟨hx, hb, hml, hown, hts⟩ (c_X6_cell_x2 l hfl D cy lo n w o G0 G0 P0 (by omega) (by omega) rfl xi (by omega) y z za zb g1) (cwV 5 hts gL_cell_X6_cell rfl rfl rfl (by decide +kernel) ⟨Nat.le_of_ble_eq_true rfl, Nat.le_of_ble_eq_true rfl⟩) (preVX hP hK hX hZ hS (x_recv (ci := 6) (q := (RX6, TX6, 11)) hK.1 hP (by omega) (by omega) rfl pwx_0)) rfl rfl hl.1 rfl (lv_room (Nat.le_of_ble_eq_true rfl)) dL_cell_11 ⟨Nat.le_of_ble_eq_true rfl, Nat.le_of_ble_eq_true rfl⟩) hS hown [⟨0, 16, 19, 13⟩] ⟨0, 16, 23, 15⟩ [] (by rw [htab]; rfl) (fun z hz => by rcases List.mem_cons.mp hz with rfl | hz; exact Or.inr ⟨by decide, IOB, (hts (.classLink RL 13 IOB) (by decide +kernel)), hY.2.2⟩; exact nomatch hz) (by decide) (by decide) (hts (.classLink RL 15 IAE) (by decide +kernel)) (va_Nw.use rfl hY.2.1) (fun q9 H locs hP hS => ?_)
      refine lv_astore (lv' := [(7, .ref q9), (0, .ref o), (1, .int (nI xi)), (2, .int y), (3, .int z), (4, .int za), (5, .int zb), (6, .ref t)]) hx hb dL_cell_23 hl (by decide) rfl (fun ls hl => ?_)
      refine lv_iconst (v := 2) hx hb dL_cell_25 (by decide) ?_
      have eS : r_cell (nI xi) y z za zb = (2, 0) := by unfold r_cell; rw [if_pos g0]; (repeat' split) <;> first | rfl | exact absurd ⟨by assumption, by assumption, by assumption, by assumption⟩ g1
      exact W.iret (v := (2 : Int32)) hx hb hr (fun tE ht hW => ⟨⟨(2 : Int32), (gw cy (gw cy (hw cy w o P0) (o + 50) G0) (o + 1) G0), rfl, ⟨by rw [eS], ⟨f0, ht6, fun h0 => absurd h0 (by rw [eS]; decide)⟩, fun a h8 h9 => (gw_out (by omega)).trans ((gw_out (by omega)).trans (hw_out (by omega)))⟩, x_at ht hP, fun h0 => absurd h0 (by rw [eS]; decide)⟩, hS.F ht⟩) hS.2.2 dL_cell_26
  · refine y_catch (vx_runV (As := [.int x, .int y, .int z, .int za, .int zb]) (rest := [.int (0 : Int32), .ref t]) ⟨hx, hb, hml, hown, hts⟩ (c_X6_cell_x1 l hfl D cy lo n w o G0 G0 P0 (by omega) (by omega) rfl x y z za zb g0) (cwV 5 hts gL_cell_X6_cell rfl rfl rfl (by decide +kernel) ⟨Nat.le_of_ble_eq_true rfl, Nat.le_of_ble_eq_true rfl⟩) (preVX hP hK hX hZ hS (x_recv (ci := 6) (q := (RX6, TX6, 11)) hK.1 hP (by omega) (by omega) rfl pwx_0)) rfl rfl hl.1 rfl (lv_room (Nat.le_of_ble_eq_true rfl)) dL_cell_11 ⟨Nat.le_of_ble_eq_true rfl, Nat.le_of_ble_eq_true rfl⟩) hS hown [] ⟨0, 16, 19, 13⟩ [⟨0, 16, 23, 15⟩] (by rw [htab]; rfl) (fun z hz => nomatch hz) (by decide) (by decide) (hts (.classLink RL 13 IOB) (by decide +kernel)) (va_Nw.use rfl hY.1) (fun q9 H locs hP hS => ?_)
    refine lv_astore (lv' := [(7, .ref q9), (0, .ref o), (1, .int x), (2, .int y), (3, .int z), (4, .int za), (5, .int zb), (6, .ref t)]) hx hb dL_cell_19 hl (by decide) rfl (fun ls hl => ?_)
    refine lv_iconst (v := 1) hx hb dL_cell_21 (by decide) ?_
    have eS : r_cell x y z za zb = (1, 0) := by unfold r_cell; rw [if_neg g0]
    exact W.iret (v := (1 : Int32)) hx hb hr (fun tE ht hW => ⟨⟨(1 : Int32), (gw cy (gw cy (hw cy w o P0) (o + 50) G0) (o + 1) G0), rfl, ⟨by rw [eS], ⟨f0, ht6, fun h0 => absurd h0 (by rw [eS]; decide)⟩, fun a h8 h9 => (gw_out (by omega)).trans ((gw_out (by omega)).trans (hw_out (by omega)))⟩, x_at ht hP, fun h0 => absurd h0 (by rw [eS]; decide)⟩, hS.F ht⟩) hS.2.2 dL_cell_22

set_option maxRecDepth 100000 in
set_option maxHeartbeats 1000000 in
theorem c_L_keptBack (l : Launch) (hfl : l.stackTraces = false) (D : va_G) (cy : Nat → ClassId) (lo n : Nat) (w : Nat → va_E) (o t : Nat) (ho1 : lo ≤ o) (ho2 : o + 118 ≤ lo + n) (ht1 : lo ≤ t) (ht2 : t < lo + n) (hto : t < o ∨ o + 118 ≤ t) (f0 : Nat → Int64) (ht0 : w t = .inl (cy 7, 1, .inr (.inl f0))) (x y z : Int32) : Met l yL_keptBack wsL_keptBack ({ frames := 9, cells := 1, slots := 6, locals := 156 }) (PcY D cy lo n (gw cy (gw cy (hw cy w o P0) (o + 50) G0) (o + 1) G0) [.ref o, .int x, .int y, .int z, .ref t]) (QY D cy lo n o t w (r_keptBack x y z)) 1 6 (fun q : Nat => lo ≤ q) := by
  refine va_MetW (cc := cL_keptBack) (maxL := 6) (ret := (some .int)) (hh := [(0, 12, 15, 13), (0, 12, 19, 15)]) (by decide) rfl ?_
  intro p e s m args below meth c s₁ B hml hv
  obtain ⟨rfl, hsz, hP, hK, hX, hZ, hY, hS⟩ := Y_entry hv
  have hx := B.exec
  have hb := B.bytes
  have hr := B.returns
  have hts := atoms_spec (ws := wsL_keptBack) B.pre
  have hown : s.vm.findClass RL = some m.cls := findClass_of_methodNamed B.named
  have hlocks := B.notSynchronized
  have htab : c.exceptionTable.toList = tableOf [(0, 12, 15, 13), (0, 12, 19, 15)] := vx_table (x := yL_keptBack) B (hts (.codeWith yL_keptBack cL_keptBack 6 (some .int) [(0, 12, 15, 13), (0, 12, 19, 15)]) (by exact List.mem_cons_self))
  have ht6 : (gw cy (gw cy (hw cy w o P0) (o + 50) G0) (o + 1) G0) t = .inl (cy 7, 1, .inr (.inl f0)) := (gw_out (by omega)).trans ((gw_out (by omega)).trans ((hw_out (by omega)).trans ht0))
  have hl := lv_entry ([.ref o, .int x, .int y, .int z, .ref t]) (n := 6) (Nat.le_of_ble_eq_true rfl)
  rw [lg_entry_eq]
  generalize (lg_sl ([.ref o, .int x, .int y, .int z, .ref t]) ++ List.replicate (6 - (lg_sl ([.ref o, .int x, .int y, .int z, .ref t])).length) Slot.unset).toArray = ls at hl ⊢
  have hl : lv_has ls 6 [(0, .ref o), (1, .int x), (2, .int y), (3, .int z), (4, .ref t)] := hl
  refine lv_aload hx hb dL_keptBack_0 (lv_at hl 4 rfl) ?_
  refine lv_iconst (v := 0) hx hb dL_keptBack_2 (by decide) ?_
  refine lv_aload_n hx hb dL_keptBack_3 rfl (lv_at hl 0 rfl) ?_
  refine lv_iload_n hx hb dL_keptBack_4 rfl (lv_at hl 1 rfl) ?_
  refine lv_iload_n hx hb dL_keptBack_5 rfl (lv_at hl 2 rfl) ?_
  refine lv_iload_n hx hb dL_keptBack_6 rfl (lv_at hl 3 rfl) ?_
  by_cases g0 : (0 ≤ x ∧ x ≤ 15)
  · obtain ⟨xi, h_xi, e_xi⟩ := nI_of2 (n := 15) (by decide) (Int32.not_lt.mpr (Int32.le_trans (by decide) g0.1)) g0.2
    subst e_xi
    by_cases g1 : ¬ m_nb xi y = -1
    · by_cases g2 : (1 ≤ z ∧ z ≤ 6)
      · obtain ⟨zi, h_zi, e_zi⟩ := nI_of2 (n := 6) (by decide) (Int32.not_lt.mpr (Int32.le_trans (by decide) g2.1)) g2.2
        subst e_zi
        have l_zi : 1 ≤ zi := (br_le (show (1 : Int32) = nI 1 from rfl) (show (nI zi) = nI zi from rfl) (by omega) (by omega)).mp g2.1
        refine x_calli (va_runV (As := [.int (nI xi), .int y, .int (nI zi)]) (rest := [.int (0 : Int32), .ref t]) ⟨hx, hb, hml, hown, hts⟩ (c_X6_keptBack l D cy lo n w o G0 G0 P0 (by omega) (by omega) 0 gi_G0 xi (by omega) y zi (by omega) (by omega) g1) (cwV 3 hts gL_keptBack_X6_keptBack rfl rfl rfl (by decide +kernel) ⟨Nat.le_of_ble_eq_true rfl, Nat.le_of_ble_eq_true rfl⟩) (preV hP hK (x_recv (ci := 6) (q := (RX6, TX6, 11)) hK.1 hP (by omega) (by omega) rfl pwx_0)) rfl rfl hl.1 rfl (lv_room (Nat.le_of_ble_eq_true rfl)) dL_keptBack_7 ⟨Nat.le_of_ble_eq_true rfl, Nat.le_of_ble_eq_true rfl⟩) hS (fun H locs hP hS => ?_)
        refine x_gen hP (fun v1 e1 hP => ?_)
        have h_out : v1 t = .inl (cy 7, 1, .inr (.inl f0)) := by rw [e1]; exact (gw_out (by omega)).trans ((gw_out (by omega)).trans ((hw_out (by omega)).trans ht0))
        have hfo : ∀ a, (a < o ∨ o + 118 ≤ a) → v1 a = w a := fun a ha => by rw [e1]; exact (gw_out (by omega)).trans ((gw_out (by omega)).trans (hw_out (by omega)))
        refine x_top (v' := (0 : Int32)) (kept_0 (by omega)) ?_
        refine lv_i2l hx hb dL_keptBack_10 rfl ?_
        refine x_topl (v' := 0) (by decide +kernel) ?_
        refine x_last hx hb hK.1 hP hS (by omega) (by omega) 7 h_out rfl (cl_of_nI (i := 0) rfl (by omega)) (vp_in_of_nI (i := 0) rfl (by omega) (by omega)) dL_keptBack_11 (fun H locs hP hS => ?_)
        refine lv_goto (tgt := 23) hx hb dL_keptBack_12 (by decide) ?_
        refine lv_iconst (v := 0) hx hb dL_keptBack_23 (by decide) ?_
        have eS : r_keptBack (nI xi) y (nI zi) = (0, 0) := by unfold r_keptBack; rw [if_neg (fun h => g1 ((bes_nb (by omega)).mp h)), if_pos g2]
        refine x_szn (by omega) (by omega) hP (fun hzH => ?_)
        refine W.widen (k := 1) (n := 6) (by omega) (by omega) ?_
        exact W.iret (v := (0 : Int32)) hx hb hr (fun tE ht hW => ⟨⟨(0 : Int32), (va_up v1 t (.inl (cy 7, 1, .inr (.inl (vp_updL f0 0 (0 : Int64)))))), rfl, ⟨by rw [eS], ⟨_, xu_same _ _ _, fun _ => by rw [eS]; first | rfl | (simp [vp_updL]; done) | (simp [vp_updL]; decide)⟩, fun a h8 h9 => (xu_ne h9).trans (hfo a h8)⟩, x_at ht hP, fun _ => by rw [ht]; exact hzH⟩, hS.F ht⟩) hS.2.2 dL_keptBack_24
      · refine y_catch (vx_runV (As := [.int (nI xi), .int y, .int z]) (rest := [.int (0 : Int32), .ref t]) ⟨hx, hb, hml, hown, hts⟩ (c_X6_keptBack_x3 l hfl D cy lo n w o G0 G0 P0 (by omega) (by omega) rfl xi (by omega) y z g1 g2) (cwV 3 hts gL_keptBack_X6_keptBack rfl rfl rfl (by decide +kernel) ⟨Nat.le_of_ble_eq_true rfl, Nat.le_of_ble_eq_true rfl⟩) (preVX hP hK hX hZ hS (x_recv (ci := 6) (q := (RX6, TX6, 11)) hK.1 hP (by omega) (by omega) rfl pwx_0)) rfl rfl hl.1 rfl (lv_room (Nat.le_of_ble_eq_true rfl)) dL_keptBack_7 ⟨Nat.le_of_ble_eq_true rfl, Nat.le_of_ble_eq_true rfl⟩) hS hown [⟨0, 12, 15, 13⟩] ⟨0, 12, 19, 15⟩ [] (by rw [htab]; rfl) (fun z hz => by rcases List.mem_cons.mp hz with rfl | hz; exact Or.inr ⟨by decide, IOB, (hts (.classLink RL 13 IOB) (by decide +kernel)), hY.2.2⟩; exact nomatch hz) (by decide) (by decide) (hts (.classLink RL 15 IAE) (by decide +kernel)) (va_Nw.use rfl hY.2.1) (fun q9 H locs hP hS => ?_)
        refine lv_astore (lv' := [(5, .ref q9), (0, .ref o), (1, .int (nI xi)), (2, .int y), (3, .int z), (4, .ref t)]) hx hb dL_keptBack_19 hl (by decide) rfl (fun ls hl => ?_)
        refine lv_iconst (v := 2) hx hb dL_keptBack_21 (by decide) ?_
        have eS : r_keptBack (nI xi) y z = (2, 0) := by unfold r_keptBack; rw [if_neg (fun h => g1 ((bes_nb (by omega)).mp h)), if_neg g2]
        exact W.iret (v := (2 : Int32)) hx hb hr (fun tE ht hW => ⟨⟨(2 : Int32), (gw cy (gw cy (hw cy w o P0) (o + 50) G0) (o + 1) G0), rfl, ⟨by rw [eS], ⟨f0, ht6, fun h0 => absurd h0 (by rw [eS]; decide)⟩, fun a h8 h9 => (gw_out (by omega)).trans ((gw_out (by omega)).trans (hw_out (by omega)))⟩, x_at ht hP, fun h0 => absurd h0 (by rw [eS]; decide)⟩, hS.F ht⟩) hS.2.2 dL_keptBack_22
    · refine y_catch (vx_runV (As := [.int (nI xi), .int y, .int z]) (rest := [.int (0 : Int32), .ref t]) ⟨hx, hb, hml, hown, hts⟩ (c_X6_keptBack_x2 l hfl D cy lo n w o G0 G0 P0 (by omega) (by omega) rfl xi (by omega) y z (Decidable.not_not.mp g1)) (cwV 3 hts gL_keptBack_X6_keptBack rfl rfl rfl (by decide +kernel) ⟨Nat.le_of_ble_eq_true rfl, Nat.le_of_ble_eq_true rfl⟩) (preVX hP hK hX hZ hS (x_recv (ci := 6) (q := (RX6, TX6, 11)) hK.1 hP (by omega) (by omega) rfl pwx_0)) rfl rfl hl.1 rfl (lv_room (Nat.le_of_ble_eq_true rfl)) dL_keptBack_7 ⟨Nat.le_of_ble_eq_true rfl, Nat.le_of_ble_eq_true rfl⟩) hS hown [] ⟨0, 12, 15, 13⟩ [⟨0, 12, 19, 15⟩] (by rw [htab]; rfl) (fun z hz => nomatch hz) (by decide) (by decide) (hts (.classLink RL 13 IOB) (by decide +kernel)) (va_Nw.use rfl hY.1) (fun q9 H locs hP hS => ?_)
      refine lv_astore (lv' := [(5, .ref q9), (0, .ref o), (1, .int (nI xi)), (2, .int y), (3, .int z), (4, .ref t)]) hx hb dL_keptBack_15 hl (by decide) rfl (fun ls hl => ?_)
      refine lv_iconst (v := 1) hx hb dL_keptBack_17 (by decide) ?_
      have eS : r_keptBack (nI xi) y z = (1, 0) := by unfold r_keptBack; rw [if_pos ((bes_nb (by omega)).mpr (Decidable.not_not.mp g1))]
      exact W.iret (v := (1 : Int32)) hx hb hr (fun tE ht hW => ⟨⟨(1 : Int32), (gw cy (gw cy (hw cy w o P0) (o + 50) G0) (o + 1) G0), rfl, ⟨by rw [eS], ⟨f0, ht6, fun h0 => absurd h0 (by rw [eS]; decide)⟩, fun a h8 h9 => (gw_out (by omega)).trans ((gw_out (by omega)).trans (hw_out (by omega)))⟩, x_at ht hP, fun h0 => absurd h0 (by rw [eS]; decide)⟩, hS.F ht⟩) hS.2.2 dL_keptBack_18
  · refine y_catch (vx_runV (As := [.int x, .int y, .int z]) (rest := [.int (0 : Int32), .ref t]) ⟨hx, hb, hml, hown, hts⟩ (c_X6_keptBack_x1 l hfl D cy lo n w o G0 G0 P0 (by omega) (by omega) rfl x y z g0) (cwV 3 hts gL_keptBack_X6_keptBack rfl rfl rfl (by decide +kernel) ⟨Nat.le_of_ble_eq_true rfl, Nat.le_of_ble_eq_true rfl⟩) (preVX hP hK hX hZ hS (x_recv (ci := 6) (q := (RX6, TX6, 11)) hK.1 hP (by omega) (by omega) rfl pwx_0)) rfl rfl hl.1 rfl (lv_room (Nat.le_of_ble_eq_true rfl)) dL_keptBack_7 ⟨Nat.le_of_ble_eq_true rfl, Nat.le_of_ble_eq_true rfl⟩) hS hown [] ⟨0, 12, 15, 13⟩ [⟨0, 12, 19, 15⟩] (by rw [htab]; rfl) (fun z hz => nomatch hz) (by decide) (by decide) (hts (.classLink RL 13 IOB) (by decide +kernel)) (va_Nw.use rfl hY.1) (fun q9 H locs hP hS => ?_)
    refine lv_astore (lv' := [(5, .ref q9), (0, .ref o), (1, .int x), (2, .int y), (3, .int z), (4, .ref t)]) hx hb dL_keptBack_15 hl (by decide) rfl (fun ls hl => ?_)
    refine lv_iconst (v := 1) hx hb dL_keptBack_17 (by decide) ?_
    have eS : r_keptBack x y z = (1, 0) := by unfold r_keptBack; rw [if_pos (bes_out g0)]
    exact W.iret (v := (1 : Int32)) hx hb hr (fun tE ht hW => ⟨⟨(1 : Int32), (gw cy (gw cy (hw cy w o P0) (o + 50) G0) (o + 1) G0), rfl, ⟨by rw [eS], ⟨f0, ht6, fun h0 => absurd h0 (by rw [eS]; decide)⟩, fun a h8 h9 => (gw_out (by omega)).trans ((gw_out (by omega)).trans (hw_out (by omega)))⟩, x_at ht hP, fun h0 => absurd h0 (by rw [eS]; decide)⟩, hS.F ht⟩) hS.2.2 dL_keptBack_18

set_option maxRecDepth 100000 in
set_option maxHeartbeats 1000000 in
theorem c_L_fault (l : Launch) (hfl : l.stackTraces = false) (D : va_G) (cy : Nat → ClassId) (lo n : Nat) (w : Nat → va_E) (o t : Nat) (ho1 : lo ≤ o) (ho2 : o + 118 ≤ lo + n) (ht1 : lo ≤ t) (ht2 : t < lo + n) (hto : t < o ∨ o + 118 ≤ t) (f0 : Nat → Int64) (ht0 : w t = .inl (cy 7, 1, .inr (.inl f0))) (x y z : Int32) (hz : z = 0 ∨ z = 1) : Met l yL_fault wsL_fault ({ frames := 9, cells := 1, slots := 6, locals := 157 }) (PcY D cy lo n (gw cy (gw cy (hw cy w o P0) (o + 50) G0) (o + 1) G0) [.ref o, .int x, .int y, .int z, .ref t]) (QY D cy lo n o t w (r_fault x y z)) 1 6 (fun q : Nat => lo ≤ q) := by
  refine va_MetW (cc := cL_fault) (maxL := 6) (ret := (some .int)) (hh := [(0, 19, 22, 13)]) (by decide) rfl ?_
  intro p e s m args below meth c s₁ B hml hv
  obtain ⟨rfl, hsz, hP, hK, hX, hZ, hY, hS⟩ := Y_entry hv
  have hx := B.exec
  have hb := B.bytes
  have hr := B.returns
  have hts := atoms_spec (ws := wsL_fault) B.pre
  have hown : s.vm.findClass RL = some m.cls := findClass_of_methodNamed B.named
  have hlocks := B.notSynchronized
  have htab : c.exceptionTable.toList = tableOf [(0, 19, 22, 13)] := vx_table (x := yL_fault) B (hts (.codeWith yL_fault cL_fault 6 (some .int) [(0, 19, 22, 13)]) (by exact List.mem_cons_self))
  have ht6 : (gw cy (gw cy (hw cy w o P0) (o + 50) G0) (o + 1) G0) t = .inl (cy 7, 1, .inr (.inl f0)) := (gw_out (by omega)).trans ((gw_out (by omega)).trans ((hw_out (by omega)).trans ht0))
  have hl := lv_entry ([.ref o, .int x, .int y, .int z, .ref t]) (n := 6) (Nat.le_of_ble_eq_true rfl)
  rw [lg_entry_eq]
  generalize (lg_sl ([.ref o, .int x, .int y, .int z, .ref t]) ++ List.replicate (6 - (lg_sl ([.ref o, .int x, .int y, .int z, .ref t])).length) Slot.unset).toArray = ls at hl ⊢
  have hl : lv_has ls 6 [(0, .ref o), (1, .int x), (2, .int y), (3, .int z), (4, .ref t)] := hl
  refine lv_aload hx hb dL_fault_0 (lv_at hl 4 rfl) ?_
  refine lv_iconst (v := 0) hx hb dL_fault_2 (by decide) ?_
  refine lv_aload_n hx hb dL_fault_3 rfl (lv_at hl 0 rfl) ?_
  refine lv_iload_n hx hb dL_fault_4 rfl (lv_at hl 1 rfl) ?_
  refine lv_iload_n hx hb dL_fault_5 rfl (lv_at hl 2 rfl) ?_
  refine lv_iload_n hx hb dL_fault_6 rfl (lv_at hl 3 rfl) ?_
  by_cases g0 : (0 ≤ x ∧ x ≤ 15)
  · obtain ⟨xi, h_xi, e_xi⟩ := nI_of2 (n := 15) (by decide) (Int32.not_lt.mpr (Int32.le_trans (by decide) g0.1)) g0.2
    subst e_xi
    by_cases g1 : ¬ m_nb xi y = -1
    · refine x_calli (va_runV (As := [.int (nI xi), .int y, .int z]) (rest := [.int (0 : Int32), .ref t]) ⟨hx, hb, hml, hown, hts⟩ (c_X6_fault l D cy lo n w o G0 G0 P0 (by omega) (by omega) 0 gi_G0 xi (by omega) y z hz g1) (cwV 3 hts gL_fault_X6_fault rfl rfl rfl (by decide +kernel) ⟨Nat.le_of_ble_eq_true rfl, Nat.le_of_ble_eq_true rfl⟩) (preV hP hK (x_recv (ci := 6) (q := (RX6, TX6, 11)) hK.1 hP (by omega) (by omega) rfl pwx_0)) rfl rfl hl.1 rfl (lv_room (Nat.le_of_ble_eq_true rfl)) dL_fault_7 ⟨Nat.le_of_ble_eq_true rfl, Nat.le_of_ble_eq_true rfl⟩) hS (fun H locs hP hS => ?_)
      refine x_gen hP (fun v1 e1 hP => ?_)
      have h_out : v1 t = .inl (cy 7, 1, .inr (.inl f0)) := by rw [e1]; exact (gw_out (by omega)).trans ((gw_out (by omega)).trans ((hw_out (by omega)).trans ht0))
      have hfo : ∀ a, (a < o ∨ o + 118 ≤ a) → v1 a = w a := fun a ha => by rw [e1]; exact (gw_out (by omega)).trans ((gw_out (by omega)).trans (hw_out (by omega)))
      refine x_top (v' := (0 : Int32)) (shut_0 (by omega)) ?_
      refine lv_if_eq (tgt := 17) hx hb dL_fault_10 (by decide) (fun _ => ?_) (fun h => absurd (by decide) h)
      refine lv_lconst (v := 0) hx hb dL_fault_17 rfl ?_
      refine x_last hx hb hK.1 hP hS (by omega) (by omega) 7 h_out rfl (cl_of_nI (i := 0) rfl (by omega)) (vp_in_of_nI (i := 0) rfl (by omega) (by omega)) dL_fault_18 (fun H locs hP hS => ?_)
      refine lv_goto (tgt := 26) hx hb dL_fault_19 (by decide) ?_
      refine lv_iconst (v := 0) hx hb dL_fault_26 (by decide) ?_
      have eS : r_fault (nI xi) y z = (0, 0) := by unfold r_fault; rw [if_neg (fun h => g1 ((bes_nb (by omega)).mp h))]
      refine x_szn (by omega) (by omega) hP (fun hzH => ?_)
      refine W.widen (k := 1) (n := 6) (by omega) (by omega) ?_
      exact W.iret (v := (0 : Int32)) hx hb hr (fun tE ht hW => ⟨⟨(0 : Int32), (va_up v1 t (.inl (cy 7, 1, .inr (.inl (vp_updL f0 0 (0 : Int64)))))), rfl, ⟨by rw [eS], ⟨_, xu_same _ _ _, fun _ => by rw [eS]; first | rfl | (simp [vp_updL]; done) | (simp [vp_updL]; decide)⟩, fun a h8 h9 => (xu_ne h9).trans (hfo a h8)⟩, x_at ht hP, fun _ => by rw [ht]; exact hzH⟩, hS.F ht⟩) hS.2.2 dL_fault_27
    · refine y_catch (vx_runV (As := [.int (nI xi), .int y, .int z]) (rest := [.int (0 : Int32), .ref t]) ⟨hx, hb, hml, hown, hts⟩ (c_X6_fault_x2 l hfl D cy lo n w o G0 G0 P0 (by omega) (by omega) rfl xi (by omega) y z (Decidable.not_not.mp g1)) (cwV 3 hts gL_fault_X6_fault rfl rfl rfl (by decide +kernel) ⟨Nat.le_of_ble_eq_true rfl, Nat.le_of_ble_eq_true rfl⟩) (preVX hP hK hX hZ hS (x_recv (ci := 6) (q := (RX6, TX6, 11)) hK.1 hP (by omega) (by omega) rfl pwx_0)) rfl rfl hl.1 rfl (lv_room (Nat.le_of_ble_eq_true rfl)) dL_fault_7 ⟨Nat.le_of_ble_eq_true rfl, Nat.le_of_ble_eq_true rfl⟩) hS hown [] ⟨0, 19, 22, 13⟩ [] (by rw [htab]; rfl) (fun z hz => nomatch hz) (by decide) (by decide) (hts (.classLink RL 13 IOB) (by decide +kernel)) (va_Nw.use rfl hY.1) (fun q9 H locs hP hS => ?_)
      refine lv_astore (lv' := [(5, .ref q9), (0, .ref o), (1, .int (nI xi)), (2, .int y), (3, .int z), (4, .ref t)]) hx hb dL_fault_22 hl (by decide) rfl (fun ls hl => ?_)
      refine lv_iconst (v := 1) hx hb dL_fault_24 (by decide) ?_
      have eS : r_fault (nI xi) y z = (1, 0) := by unfold r_fault; rw [if_pos ((bes_nb (by omega)).mpr (Decidable.not_not.mp g1))]
      exact W.iret (v := (1 : Int32)) hx hb hr (fun tE ht hW => ⟨⟨(1 : Int32), (gw cy (gw cy (hw cy w o P0) (o + 50) G0) (o + 1) G0), rfl, ⟨by rw [eS], ⟨f0, ht6, fun h0 => absurd h0 (by rw [eS]; decide)⟩, fun a h8 h9 => (gw_out (by omega)).trans ((gw_out (by omega)).trans (hw_out (by omega)))⟩, x_at ht hP, fun h0 => absurd h0 (by rw [eS]; decide)⟩, hS.F ht⟩) hS.2.2 dL_fault_25
  · refine y_catch (vx_runV (As := [.int x, .int y, .int z]) (rest := [.int (0 : Int32), .ref t]) ⟨hx, hb, hml, hown, hts⟩ (c_X6_fault_x1 l hfl D cy lo n w o G0 G0 P0 (by omega) (by omega) rfl x y z g0) (cwV 3 hts gL_fault_X6_fault rfl rfl rfl (by decide +kernel) ⟨Nat.le_of_ble_eq_true rfl, Nat.le_of_ble_eq_true rfl⟩) (preVX hP hK hX hZ hS (x_recv (ci := 6) (q := (RX6, TX6, 11)) hK.1 hP (by omega) (by omega) rfl pwx_0)) rfl rfl hl.1 rfl (lv_room (Nat.le_of_ble_eq_true rfl)) dL_fault_7 ⟨Nat.le_of_ble_eq_true rfl, Nat.le_of_ble_eq_true rfl⟩) hS hown [] ⟨0, 19, 22, 13⟩ [] (by rw [htab]; rfl) (fun z hz => nomatch hz) (by decide) (by decide) (hts (.classLink RL 13 IOB) (by decide +kernel)) (va_Nw.use rfl hY.1) (fun q9 H locs hP hS => ?_)
    refine lv_astore (lv' := [(5, .ref q9), (0, .ref o), (1, .int x), (2, .int y), (3, .int z), (4, .ref t)]) hx hb dL_fault_22 hl (by decide) rfl (fun ls hl => ?_)
    refine lv_iconst (v := 1) hx hb dL_fault_24 (by decide) ?_
    have eS : r_fault x y z = (1, 0) := by unfold r_fault; rw [if_pos (bes_out g0)]
    exact W.iret (v := (1 : Int32)) hx hb hr (fun tE ht hW => ⟨⟨(1 : Int32), (gw cy (gw cy (hw cy w o P0) (o + 50) G0) (o + 1) G0), rfl, ⟨by rw [eS], ⟨f0, ht6, fun h0 => absurd h0 (by rw [eS]; decide)⟩, fun a h8 h9 => (gw_out (by omega)).trans ((gw_out (by omega)).trans (hw_out (by omega)))⟩, x_at ht hP, fun h0 => absurd h0 (by rw [eS]; decide)⟩, hS.F ht⟩) hS.2.2 dL_fault_25
