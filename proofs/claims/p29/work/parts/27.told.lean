/-! Told: what it is in the run of cells, and what the script says -/
section
variable {p : Program} {l : Launch} {e : Env} {R : Room} {s : State} {m : MethodId} {args : Array Value} {below : List Frame} {meth : Method} {c : Code} {H : Heap} {locs : List Loc} {cells slots : Nat} {Q : State → Prop}
variable {cc : ByteArray} {pc : Nat} {ls : Array Slot} {rest st0 : List Value} {a : Array Value} {D : va_G} {cy : Nat → ClassId} {H0 : Heap} {lo n : Nat} {w : Nat → va_E} {mc ms : Nat}
/-- a start: the arguments, the run of cells, the script -/
def PcT (D : va_G) (cy : Nat → ClassId) (lo n : Nat) (w : Nat → va_E) (b L : Nat) (xs : Nat → Int32) (av : List Value) : Array Value → State → Prop := va_Pc av (fun U => (va_P D vwCl (rl lo n w) U.heap ∧ KK D cy U) ∧ va_X b L xs U U.heap)
theorem PcT.blind {b L : Nat} {xs : Nat → Int32} {av : List Value} : FrameBlind (PcT D cy lo n w b L xs av) := fun _ U g mk q => ⟨q.1, ⟨q.2.1.1, KK.same (u := U) (by rfl) q.2.1.2⟩, va_X.moved (u := U) (Vm.Alike.refl U.vm) q.2.2⟩
/-- the script lies below the run: it stays -/
theorem x_scr {b L : Nat} {xs : Nat → Int32} (hX : va_X b L xs s s.heap) (hbl : b < lo) (hS : va_S (fun q : Nat => lo ≤ q) s.heap H locs) : va_X b L xs s H :=
  hX.kept (hS.2.1 b (by obtain ⟨scr, h, -⟩ := hX; exact (Array.getElem?_eq_some_iff.mp h).1) (by omega))
theorem preVT {C : String} {q b L : Nat} {xs : Nat → Int32} {As : List Value} (hP : va_P D vwCl (rl lo n w) H) (hK : KK D cy s) (hX : va_X b L xs s H) (hr : ∃ cell : Cell, H[q]? = some cell ∧ cell.vm.isStatics = false ∧ s.vm.findClass C = some cell.cls) : PreV s H C q (PcT D cy lo n w b L xs (.ref q :: As)) As :=
  ⟨PcT.blind, hr, fun U hU hW => ⟨rfl, ⟨by rw [hU]; exact hP, hK.warm hW⟩, by rw [hU]; exact hX.moved hW.alike⟩⟩
theorem preST {b L : Nat} {xs : Nat → Int32} {As : List Value} (hP : va_P D vwCl (rl lo n w) H) (hK : KK D cy s) (hX : va_X b L xs s H) : PreS s H (PcT D cy lo n w b L xs As) As :=
  ⟨PcT.blind, fun U hU hW => ⟨rfl, ⟨by rw [hU]; exact hP, hK.warm hW⟩, by rw [hU]; exact hX.moved hW.alike⟩⟩
theorem x_entryT {b L : Nat} {xs : Nat → Int32} {av : List Value} (hv : PcT D cy lo n w b L xs av args s) : args = av.toArray ∧ va_P D vwCl (rl lo n w) s.heap ∧ KK D cy s ∧ va_S (fun q : Nat => lo ≤ q) s.heap s.heap [] ∧ va_X b L xs s s.heap := ⟨hv.1, hv.2.1.1, hv.2.1.2, va_S.rf, hv.2.2⟩
end
/-- what the script says at the k-th place -/
def lcell (L : Nat) (xs : Nat → Int32) (k : Nat) : Int32 := if k < L then xs k else 790386105 * (nI k + 3)
/-- v below N, of an int v -/
def lbel (v : Int32) (N : Nat) : Int32 := (v &&& 2147483647) - (v &&& 2147483647) / nI N * nI N
theorem and_nn (v : Int32) : 0 ≤ (v &&& 2147483647).toInt := by
  have h : (v &&& 2147483647).toBitVec.toNat ≤ 2147483647 := by
    rw [Int32.toBitVec_and, BitVec.toNat_and]
    exact Nat.and_le_right
  show 0 ≤ (v &&& 2147483647).toBitVec.toInt
  rw [BitVec.toInt_eq_toNat_of_lt (by omega)]
  omega
theorem lbel_ok (v : Int32) {N : Nat} (h0 : 0 < N) (hN : N < 2 ^ 31) : ∃ k, k < N ∧ lbel v N = nI k := by
  have e := nI_int hN
  have hv := and_nn v
  have hl := Int32.toInt_lt (v &&& 2147483647)
  have e1 : ((v &&& 2147483647) / nI N).toInt = (v &&& 2147483647).toInt / N := by rw [idv hv (by omega), e]
  have hm := Int.mul_ediv_add_emod (v &&& 2147483647).toInt N
  have hr0 := Int.emod_nonneg (v &&& 2147483647).toInt (show (N : Int) ≠ 0 by omega)
  have hr1 := Int.emod_lt_of_pos (v &&& 2147483647).toInt (show (0 : Int) < N by omega)
  have hq : 0 ≤ (v &&& 2147483647).toInt / (N : Int) := Int.ediv_nonneg hv (by omega)
  have hqn : 0 ≤ (N : Int) * ((v &&& 2147483647).toInt / (N : Int)) := Int.mul_nonneg (by omega) hq
  have e2 : ((v &&& 2147483647) / nI N * nI N).toInt = (N : Int) * ((v &&& 2147483647).toInt / (N : Int)) := im (by rw [e1, e, Int.mul_comm]) (by omega) (by omega)
  have e3 : (lbel v N).toInt = (v &&& 2147483647).toInt % (N : Int) := by
    unfold lbel
    rw [isb (by omega) (by omega), e2]
    omega
  refine ⟨((v &&& 2147483647).toInt % (N : Int)).toNat, by omega, Int32.toInt_inj.mp ?_⟩
  rw [e3, nI_int (by omega)]
  omega
set_option maxRecDepth 100000 in
set_option maxHeartbeats 4000000 in
/-- PoreFieldLaw.below -/
theorem c_L_below (l : Launch) (D : va_G) (cy : Nat → ClassId) (lo n : Nat) (w : Nat → va_E) (b L : Nat) (xs : Nat → Int32) (v : Int32) (N : Nat) (h0 : 0 < N) (hN : N < 2 ^ 31) : Met l yL_below wsL_below ({ frames := 0, cells := 0, slots := 0, locals := 0 }) (PcT D cy lo n w b L xs [.int v, .int (nI N)]) (QiW D lo n w (lbel v N)) 0 0 (fun q : Nat => lo ≤ q) := by
  refine Met.ofW (cc := cL_below) (maxL := 2) (ret := (some .int)) (by decide) rfl ?_
  intro p e s m args below meth c s₁ B hml hv
  obtain ⟨rfl, hP, hK, hS, hX⟩ := x_entryT hv
  have hx := B.exec
  have hb := B.bytes
  have hr := B.returns
  have hts := atoms_spec (ws := wsL_below) B.pre
  have hown : s.vm.findClass RL = some m.cls := findClass_of_methodNamed B.named
  have hl := lv_entry ([.int v, .int (nI N)]) (n := 2) (Nat.le_of_ble_eq_true rfl)
  rw [lg_entry_eq]
  generalize (lg_sl ([.int v, .int (nI N)]) ++ List.replicate (2 - (lg_sl ([.int v, .int (nI N)])).length) Slot.unset).toArray = ls at hl ⊢
  have hl : lv_has ls 2 [(0, .int v), (1, .int (nI N))] := hl
  refine lv_iload_n hx hb dL_below_0 rfl (lv_at hl 0 rfl) ?_
  refine lv_ldc (own := RL) (v := 2147483647) hx hb hown (hts (.constant RL 7 (2147483647)) (by decide +kernel)) dL_below_1 ?_
  refine lv_iand hx hb dL_below_3 ?_
  refine lv_iload_n hx hb dL_below_4 rfl (lv_at hl 1 rfl) ?_
  refine lv_irem hx hb dL_below_5 (fun q => by
    have := (nI_eq (a := N) (b := 0) hN (by omega)).mp q
    omega) ?_
  exact W.iret (v := lbel v N) hx hb hr (fun tE ht hW => ⟨⟨_, (), rfl, rfl, x_at ht hP⟩, hS.F ht⟩) hS.2.2 dL_below_6
set_option maxRecDepth 100000 in
set_option maxHeartbeats 4000000 in
/-- PoreFieldLaw.cell -/
theorem c_L_cell (l : Launch) (D : va_G) (cy : Nat → ClassId) (lo n : Nat) (w : Nat → va_E) (b L : Nat) (xs : Nat → Int32) (hbl : b < lo) (hL : L ≤ 260) (k : Nat) (hk : k < 2 ^ 31) : Met l yL_cell wsL_cell ({ frames := 0, cells := 0, slots := 0, locals := 0 }) (PcT D cy lo n w b L xs [.ref b, .int (nI k)]) (QiW D lo n w (lcell L xs k)) 0 0 (fun q : Nat => lo ≤ q) := by
  refine Met.ofW (cc := cL_cell) (maxL := 2) (ret := (some .int)) (by decide) rfl ?_
  intro p e s m args below meth c s₁ B hml hv
  obtain ⟨rfl, hP, hK, hS, hX⟩ := x_entryT hv
  have hx := B.exec
  have hb := B.bytes
  have hr := B.returns
  have hts := atoms_spec (ws := wsL_cell) B.pre
  have hown : s.vm.findClass RL = some m.cls := findClass_of_methodNamed B.named
  have hbs : b < s.heap.size := by obtain ⟨scr, h, -⟩ := hX; exact (Array.getElem?_eq_some_iff.mp h).1
  have hl := lv_entry ([.ref b, .int (nI k)]) (n := 2) (Nat.le_of_ble_eq_true rfl)
  rw [lg_entry_eq]
  generalize (lg_sl ([.ref b, .int (nI k)]) ++ List.replicate (2 - (lg_sl ([.ref b, .int (nI k)])).length) Slot.unset).toArray = ls at hl ⊢
  have hl : lv_has ls 2 [(0, .ref b), (1, .int (nI k))] := hl
  refine lv_iload_n hx hb dL_cell_0 rfl (lv_at hl 1 rfl) ?_
  refine lv_aload_n hx hb dL_cell_1 rfl (lv_at hl 0 rfl) ?_
  refine va_slen hx hb hX hbs (by omega) hS dL_cell_2 ?_
  refine lv_icmp_ge (tgt := 12) hx hb dL_cell_3 (by decide) (fun h1 => ?_) (fun h1 => ?_)
  · have h1 : L ≤ k := (nI_leI (by omega) hk).mp h1
    refine lv_ldc (own := RL) (v := 790386105) hx hb hown (hts (.constant RL 8 (790386105)) (by decide +kernel)) dL_cell_12 ?_
    refine lv_iload_n hx hb dL_cell_14 rfl (lv_at hl 1 rfl) ?_
    refine lv_iconst (v := 3) hx hb dL_cell_15 (by decide) ?_
    refine lv_iadd hx hb dL_cell_16 ?_
    refine lv_imul hx hb dL_cell_17 ?_
    exact W.iret (v := 790386105 * (nI k + 3)) hx hb hr (fun tE ht hW => ⟨⟨_, (), rfl, by unfold lcell; rw [if_neg (by omega)], x_at ht hP⟩, hS.F ht⟩) hS.2.2 dL_cell_18
  · have h1 : ¬ L ≤ k := fun q => h1 ((nI_leI (by omega) hk).mpr q)
    refine lv_aload_n hx hb dL_cell_6 rfl (lv_at hl 0 rfl) ?_
    refine lv_iload_n hx hb dL_cell_7 rfl (lv_at hl 1 rfl) ?_
    refine va_sld hx hb hX hbs (by omega) hS (vp_in_nI (by omega) (by omega)) dL_cell_8 ?_
    refine lv_goto (tgt := 18) hx hb dL_cell_9 (by decide) ?_
    exact W.iret (v := xs (nI k).toNatClampNeg) hx hb hr (fun tE ht hW => ⟨⟨_, (), rfl, by unfold lcell; rw [if_pos (by omega), nI_clamp (by omega)], x_at ht hP⟩, hS.F ht⟩) hS.2.2 dL_cell_18
/-- the d-th draw, before it is brought below something -/
def dval (L : Nat) (xs : Nat → Int32) (d : Nat) : Int32 := (lcell L xs (d % 24) >>> ((nI d / 24 - nI d / 24 / 8 * 8) &&& 31)) + 283 * nI d
/-- the d-th draw below N -/
def dw (L : Nat) (xs : Nat → Int32) (d N : Nat) : Int32 := lbel (dval L xs d) N
/-- the fields of a Told at t: o its field, b the script, d the draws, wo its wells, pe the permit -/
abbrev tF (t b d wo : Nat) (pe : Int32) : List Value := [.ref (t + 1), .ref b, .int (nI d), .ref (t + 119), .ref (t + 120), .ref (t + 137), .ref wo, .ref (t + 155), .int pe, .int 300, .int 0, .int 0, .ref (t + 156)]
theorem rem_nI {d k : Nat} (hd : d < 2 ^ 31) (h0 : 0 < k) (hk : k < 2 ^ 31) : nI d - nI d / nI k * nI k = nI (d % k) := by
  have e1 := nI_int hd
  have e2 := nI_int hk
  have e3 : (nI d / nI k).toInt = ((d / k : Nat) : Int) := by rw [idv (by omega) (by omega), e1, e2]; rfl
  have hq : k * (d / k) + d % k = d := Nat.div_add_mod d k
  have hr : d % k < k := Nat.mod_lt _ h0
  have e4 : (nI d / nI k * nI k).toInt = ((k * (d / k) : Nat) : Int) := im (by rw [e3, e2, ← Int.natCast_mul, Nat.mul_comm]) (by omega) (by omega)
  refine Int32.toInt_inj.mp ?_
  rw [isb (by omega) (by omega), e1, e4, nI_int (by omega)]
  omega
set_option maxRecDepth 100000 in
set_option maxHeartbeats 4000000 in
/-- Told.draw -/
theorem c_X7_draw (l : Launch) (D : va_G) (cy : Nat → ClassId) (lo n : Nat) (w : Nat → va_E) (b L : Nat) (xs : Nat → Int32) (hbl : b < lo) (hL : L ≤ 260) (t d wo : Nat) (pe : Int32) (ht1 : lo ≤ t) (ht2 : t < lo + n) (hw : w t = .inr (7, tF t b d wo pe)) (hd : d < 1000000) (N : Nat) (h0 : 0 < N) (hN : N < 2 ^ 31) : Met l yX7_draw wsX7_draw ({ frames := 1, cells := 0, slots := 0, locals := 21 }) (PcT D cy lo n w b L xs [.ref t, .int (nI N)]) (QiW D lo n (va_up w t (.inr (7, tF t b (d + 1) wo pe))) (dw L xs d N)) 0 0 (fun q : Nat => lo ≤ q) := by
  refine Met.ofW (cc := cX7_draw) (maxL := 3) (ret := (some .int)) (by decide) rfl ?_
  intro p e s m args below meth c s₁ B hml hv
  obtain ⟨rfl, hP, hK, hS, hX⟩ := x_entryT hv
  have hx := B.exec
  have hb := B.bytes
  have hr := B.returns
  have hts := atoms_spec (ws := wsX7_draw) B.pre
  have hown : s.vm.findClass RX7 = some m.cls := findClass_of_methodNamed B.named
  have iX7 : ∀ w ∈ u_ws RX7 TX7 13, w ∈ wsX7_draw := by decide +kernel
  have hl := lv_entry ([.ref t, .int (nI N)]) (n := 3) (Nat.le_of_ble_eq_true rfl)
  rw [lg_entry_eq]
  generalize (lg_sl ([.ref t, .int (nI N)]) ++ List.replicate (3 - (lg_sl ([.ref t, .int (nI N)])).length) Slot.unset).toArray = ls at hl ⊢
  have hl : lv_has ls 3 [(0, .ref t), (1, .int (nI N))] := hl
  refine lv_aload_n hx hb dX7_draw_0 rfl (lv_at hl 0 rfl) ?_
  refine x_get (ref := RX7) (C := RX7) (T := TX7) (N := 13) (ci := 7) (v := .ref b) hx hb hts iX7 hown hK.1 hP ht1 ht2 hw rfl 1 (by decide) (hts (.fieldLink RX7 47 "PoreFieldLaw$Told" "s" "[I") (by decide +kernel)) (fun _ h9 => h9) rfl dX7_draw_1 ?_
  refine lv_aload_n hx hb dX7_draw_4 rfl (lv_at hl 0 rfl) ?_
  refine x_get (ref := RX7) (C := RX7) (T := TX7) (N := 13) (ci := 7) (v := .int (nI d)) hx hb hts iX7 hown hK.1 hP ht1 ht2 hw rfl 2 (by decide) (hts (.fieldLink RX7 50 "PoreFieldLaw$Told" "draws" "I") (by decide +kernel)) (fun _ h9 => h9) rfl dX7_draw_5 ?_
  refine lv_bipush (v := 24) hx hb dX7_draw_8 (by decide) ?_
  refine lv_irem hx hb dX7_draw_10 (by decide) ?_
  have e24 : nI d - nI d / 24 * 24 = nI (d % 24) := rem_nI (d := d) (k := 24) (by omega) (by omega) (by omega)
  rw [e24]
  refine x_calli (va_runSN (As := [.ref b, .int (nI (d % 24))]) (rest := []) ⟨hx, hb, hml, hown, hts⟩ (c_L_cell l D cy lo n w b L xs hbl hL (d % 24) (by omega)) ⟨va_cnB 2 hts gX7_draw_L_cell_n53 rfl rfl rfl hK.2.2.1 (hts (.initialized RL) (by decide +kernel)) (by decide +kernel) ⟨Nat.le_of_ble_eq_true rfl, Nat.le_of_ble_eq_true rfl⟩, hts (.static yL_cell) (by decide +kernel), trivial⟩ (preST hP hK (x_scr hX hbl hS)) rfl rfl hl.1 rfl (lv_room (Nat.le_of_ble_eq_true rfl)) dX7_draw_11 ⟨Nat.le_of_ble_eq_true rfl, Nat.le_of_ble_eq_true rfl⟩) hS (fun H locs hP hS => ?_)
  refine lv_aload_n hx hb dX7_draw_14 rfl (lv_at hl 0 rfl) ?_
  refine x_get (ref := RX7) (C := RX7) (T := TX7) (N := 13) (ci := 7) (v := .int (nI d)) hx hb hts iX7 hown hK.1 hP ht1 ht2 hw rfl 2 (by decide) (hts (.fieldLink RX7 50 "PoreFieldLaw$Told" "draws" "I") (by decide +kernel)) (fun _ h9 => h9) rfl dX7_draw_15 ?_
  refine lv_bipush (v := 24) hx hb dX7_draw_18 (by decide) ?_
  refine lv_idiv hx hb dX7_draw_20 (by decide) ?_
  refine lv_bipush (v := 8) hx hb dX7_draw_21 (by decide) ?_
  refine lv_irem hx hb dX7_draw_23 (by decide) ?_
  refine lv_ishr hx hb dX7_draw_24 ?_
  refine lv_sipush (v := 283) hx hb dX7_draw_25 (by decide) ?_
  refine lv_aload_n hx hb dX7_draw_28 rfl (lv_at hl 0 rfl) ?_
  refine x_get (ref := RX7) (C := RX7) (T := TX7) (N := 13) (ci := 7) (v := .int (nI d)) hx hb hts iX7 hown hK.1 hP ht1 ht2 hw rfl 2 (by decide) (hts (.fieldLink RX7 50 "PoreFieldLaw$Told" "draws" "I") (by decide +kernel)) (fun _ h9 => h9) rfl dX7_draw_29 ?_
  refine lv_imul hx hb dX7_draw_32 ?_
  refine lv_iadd hx hb dX7_draw_33 ?_
  refine lv_iload_n hx hb dX7_draw_34 rfl (lv_at hl 1 rfl) ?_
  refine x_calli (va_runSN (As := [.int (dval L xs d), .int (nI N)]) (rest := []) ⟨hx, hb, hml, hown, hts⟩ (c_L_below l D cy lo n w b L xs (dval L xs d) N h0 hN) ⟨va_cnB 2 hts gX7_draw_L_below_n59 rfl rfl rfl hK.2.2.2.1 (hts (.initialized RL) (by decide +kernel)) (by decide +kernel) ⟨Nat.le_of_ble_eq_true rfl, Nat.le_of_ble_eq_true rfl⟩, hts (.static yL_below) (by decide +kernel), trivial⟩ (preST hP hK (x_scr hX hbl hS)) rfl rfl hl.1 rfl (lv_room (Nat.le_of_ble_eq_true rfl)) dX7_draw_35 ⟨Nat.le_of_ble_eq_true rfl, Nat.le_of_ble_eq_true rfl⟩) hS (fun H locs hP hS => ?_)
  refine lv_istore_n (lv' := [(2, .int (lbel (dval L xs d) N)), (0, .ref t), (1, .int (nI N))]) hx hb dX7_draw_38 rfl hl (by decide) rfl (fun ls hl => ?_)
  refine lv_aload_n hx hb dX7_draw_39 rfl (lv_at hl 1 rfl) ?_
  refine lv_dup hx hb dX7_draw_40 rfl ?_
  refine x_get (ref := RX7) (C := RX7) (T := TX7) (N := 13) (ci := 7) (v := .int (nI d)) hx hb hts iX7 hown hK.1 hP ht1 ht2 hw rfl 2 (by decide) (hts (.fieldLink RX7 50 "PoreFieldLaw$Told" "draws" "I") (by decide +kernel)) (fun _ h9 => h9) rfl dX7_draw_41 ?_
  refine lv_iconst (v := 1) hx hb dX7_draw_44 (by decide) ?_
  refine lv_iadd hx hb dX7_draw_45 ?_
  rw [nI_1]
  refine x_put (ty := .int) (ref := RX7) (C := RX7) (T := TX7) (N := 13) (ci := 7) (v := .int (nI (d + 1))) hx hb hts iX7 tyX7 tyX7_ok nmX7 hown hK.1 hP hS ht1 ht2 hw rfl 2 (by decide) (hts (.fieldLink RX7 50 "PoreFieldLaw$Told" "draws" "I") (by decide +kernel)) (fun _ h9 => h9) rfl (by decide +kernel) rfl rfl (Nat.le_of_ble_eq_true rfl) dX7_draw_46 (fun H locs hP hS => ?_)
  refine lv_iload_n hx hb dX7_draw_49 rfl (lv_at hl 0 rfl) ?_
  exact W.iret (v := dw L xs d N) hx hb hr (fun tE ht hW => ⟨⟨_, (), rfl, rfl, x_at ht hP⟩, hS.F ht⟩) hS.2.2 dX7_draw_50
