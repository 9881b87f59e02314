/-! meanPressure -/
abbrev QdW (D : va_G) (lo n : Nat) (w : Nat → va_E) (v : UInt64) : Array Value → State → Outcome → State → Prop := va_Qd (fun (r : UInt64) (_ : Unit) => r = v) (fun _ t => va_P D vwCl (rl lo n w) t.heap) (fun q : Nat => lo ≤ q)
abbrev MPV : UInt64 := FP.ddiv (FP.i2d 0) 4625196817309499392
theorem mpv_n : vf_n64 MPV := by
  unfold vf_n64
  decide +kernel
set_option maxRecDepth 100000 in
set_option maxHeartbeats 1000000 in
/-- meanPressure, where nothing is in any cell -/
theorem c_X6_meanPressure (l : Launch) (D : va_G) (cy : Nat → ClassId) (lo n : Nat) (w : Nat → va_E) (o : Nat) (G T P : Mem) (ho1 : lo ≤ o) (ho2 : o + 118 ≤ lo + n) (hrm : ∀ i, i < 16 → ¬ G (5 + 2 * i) 0 = 0) (hp0 : ∀ i, i < 16 → m_pressure G i = 0) : Met l yX6_meanPressure wsX6_meanPressure ({ frames := 2, cells := 0, slots := 0, locals := 40 }) (PcW D cy lo n (gw cy (gw cy (hw cy w o P) (o + 50) T) (o + 1) G) [.ref o]) (QdW D lo n (gw cy (gw cy (hw cy w o P) (o + 50) T) (o + 1) G) MPV) 0 0 (fun q : Nat => lo ≤ q) := by
  refine Met.ofW (cc := cX6_meanPressure) (maxL := 3) (ret := (some .double)) (by decide) rfl ?_
  intro p e s m args below meth c s₁ B hml hv
  obtain ⟨rfl, hP, hK, hS⟩ := x_entry hv
  have hx := B.exec
  have hb := B.bytes
  have hr := B.returns
  have hts := atoms_spec (ws := wsX6_meanPressure) B.pre
  have hown : s.vm.findClass RX6 = some m.cls := findClass_of_methodNamed B.named
  have hlocks := B.notSynchronized
  have iX2 : ∀ w ∈ u_ws RX2 TX2 12, w ∈ wsX6_meanPressure := by decide +kernel
  have iX6 : ∀ w ∈ u_ws RX6 TX6 11, w ∈ wsX6_meanPressure := by decide +kernel
  have hl := lv_entry ([.ref o]) (n := 3) (Nat.le_of_ble_eq_true rfl)
  rw [lg_entry_eq]
  generalize (lg_sl ([.ref o]) ++ List.replicate (3 - (lg_sl ([.ref o])).length) Slot.unset).toArray = ls at hl ⊢
  have hl : lv_has ls 3 [(0, .ref o)] := hl
  refine lv_iconst (v := 0) hx hb dX6_meanPressure_0 (by decide) ?_
  refine lv_istore_n (lv' := [(1, .int (0 : Int32)), (0, .ref o)]) hx hb dX6_meanPressure_1 rfl hl (by decide) rfl (fun ls hl => ?_)
  refine lv_iconst (v := 0) hx hb dX6_meanPressure_2 (by decide) ?_
  refine lv_istore_n (lv' := [(2, .int (0 : Int32)), (1, .int (0 : Int32)), (0, .ref o)]) hx hb dX6_meanPressure_3 rfl hl (by decide) rfl (fun ls hl => ?_)
  have L1 : ∀ (r k : Nat) (H : Heap) (locs : List Loc) (ls : Array Slot), k + r = 16 → lv_has ls 3 [(2, .int (nI k)), (1, .int (0 : Int32)), (0, .ref o)] → va_P D vwCl (rl lo n (gw cy (gw cy (hw cy w o P) (o + 50) T) (o + 1) G)) H → va_S (fun q : Nat => lo ≤ q) s.heap H locs → W p l e (headSpec wsX6_meanPressure ({ frames := 2, cells := 0, slots := 0, locals := 40 })).room s m (([.ref o] : List Value).toArray) below meth c H locs 0 0 (MQ below (QdW D lo n (gw cy (gw cy (hw cy w o P) (o + 50) T) (o + 1) G) MPV) (([.ref o] : List Value).toArray) s 0 0 (fun q : Nat => lo ≤ q)) (F0 m 4 ls []) := by
    intro r
    induction r with
    | zero =>
      intro k H locs ls hk hl hP hS
      have e9 : k = 16 := by omega
      subst k
      refine lv_iload_n hx hb dX6_meanPressure_4 rfl (lv_at hl 0 rfl) ?_
      refine lv_bipush (v := 16) hx hb dX6_meanPressure_5 (by decide) ?_
      refine lv_icmp_ge (tgt := 31) hx hb dX6_meanPressure_7 (by decide) (fun _ => ?_) (fun h => absurd ((br_le (show (16 : Int32) = nI 16 from rfl) (show (nI 16) = nI 16 from rfl) (by omega) (by omega)).mpr (by omega)) h)
      refine lv_iload_n hx hb dX6_meanPressure_31 rfl (lv_at hl 1 rfl) ?_
      refine lv_i2d hx hb dX6_meanPressure_32 ?_
      refine lv_ldc2d (own := RX6) (v := 4625196817309499392) hx hb hown (hts (.constantDouble RX6 235 (4625196817309499392)) (by decide +kernel)) dX6_meanPressure_33 ?_
      refine lv_ddiv hx hb dX6_meanPressure_36 mpv_n ?_
      exact W.dret (v := MPV) hx hb hr (fun tE ht hW => ⟨⟨MPV, (), rfl, rfl, x_at ht hP⟩, hS.F ht⟩) hS.2.2 dX6_meanPressure_37
    | succ r ih =>
      intro k H locs ls hk hl hP hS
      refine lv_iload_n hx hb dX6_meanPressure_4 rfl (lv_at hl 0 rfl) ?_
      refine lv_bipush (v := 16) hx hb dX6_meanPressure_5 (by decide) ?_
      refine lv_icmp_ge (tgt := 31) hx hb dX6_meanPressure_7 (by decide) (fun h => absurd h (fun h9 => absurd ((br_le (show (16 : Int32) = nI 16 from rfl) (show (nI k) = nI k from rfl) (by omega) (by omega)).mp h9) (by omega))) (fun _ => ?_)
      refine lv_iload_n hx hb dX6_meanPressure_10 rfl (lv_at hl 1 rfl) ?_
      refine lv_aload_n hx hb dX6_meanPressure_11 rfl (lv_at hl 2 rfl) ?_
      refine x_get (ref := RX6) (C := RX6) (T := TX6) (N := 11) (ci := 6) (v := .ref (o + 1)) hx hb hts iX6 hown hK.1 hP (by omega) (by omega) ((gw_out (by omega)).trans ((gw_out (by omega)).trans hw_0)) rfl 0 (by decide) (hts (.fieldLink RX6 10 "PoreField" "ground" "LPoreField$Ground;") (by decide +kernel)) (fun _ h9 => h9) rfl dX6_meanPressure_12 ?_
      refine x_get (ref := RX2) (C := RX2) (T := TX2) (N := 12) (ci := 2) (v := .ref (o + 1 + 1)) hx hb hts iX2 hown hK.1 hP (by omega) (by omega) gw_0 rfl 0 (by decide) (hts (.fieldLink RX6 59 "PoreField$Ground" "cells" "[LPoreField$Cell;") (by decide +kernel)) (fun _ h9 => h9) rfl dX6_meanPressure_15 ?_
      refine lv_iload_n hx hb dX6_meanPressure_18 rfl (lv_at hl 0 rfl) ?_
      refine x_aald (b := (o + 1 + (5 + 2 * k))) hx hb hK.1 hP (by omega) (by omega) 1 gw_1 rfl (cl_of_nI (i := k) rfl (by omega)) rfl (vp_in_of_nI (i := k) rfl (by omega) (by omega)) dX6_meanPressure_19 ?_
      refine x_calli (va_runV (As := []) (rest := [.int (0 : Int32)]) ⟨hx, hb, hml, hown, hts⟩ (c_X1_pressure l D cy lo n (gw cy (hw cy w o P) (o + 50) T) (o + 1) G (by omega) (by omega) k (by omega) (hrm k (by omega))) (cwV 0 hts gX6_meanPressure_X1_pressure rfl rfl rfl (by decide +kernel) ⟨Nat.le_of_ble_eq_true rfl, Nat.le_of_ble_eq_true rfl⟩) (preV hP hK (x_recv (ci := 1) (q := (RX1, TX1, 4)) hK.1 hP (by omega) (by omega) rfl (gw_cell (by omega)))) rfl rfl hl.1 rfl (lv_room (Nat.le_of_ble_eq_true rfl)) dX6_meanPressure_20 ⟨Nat.le_of_ble_eq_true rfl, Nat.le_of_ble_eq_true rfl⟩) hS (fun H locs hP hS => ?_)
      refine x_top (v' := (0 : Int32)) (hp0 k (by omega)) ?_
      refine lv_iadd hx hb dX6_meanPressure_23 ?_
      refine x_top (v' := 0) (by decide) ?_
      refine lv_istore_n (lv' := [(1, .int (0 : Int32)), (2, .int (nI k)), (0, .ref o)]) hx hb dX6_meanPressure_24 rfl hl (by decide) rfl (fun ls hl => ?_)
      refine lv_iinc (v := (nI (k + 1))) (lv' := [(2, .int (nI (k + 1))), (1, .int (0 : Int32)), (0, .ref o)]) hx hb dX6_meanPressure_25 hl (k := 1) rfl (nI_1 _) (by decide) rfl (fun ls hl => ?_)
      refine lv_goto (tgt := 4) hx hb dX6_meanPressure_28 (by decide) ?_
      exact ih (k + 1) _ _ _ (by omega) (lv_sub hl [0, 1, 2] rfl) hP hS
  exact L1 16 0 _ _ _ (by omega) (lv_sub hl [0, 1, 2] rfl) hP hS

set_option maxRecDepth 100000 in
set_option maxHeartbeats 1000000 in
/-- meanPressure of the reckoner -/
theorem c_X8_meanPressure (l : Launch) (D : va_G) (cy : Nat → ClassId) (lo n : Nat) (w : Nat → va_E) (q : Nat) (h1 : lo ≤ q) (h2 : q + 22 ≤ lo + n) (th : Int32) (hM : MM cy w q th 5 0 0 0) (hB : LB cy w q) (hF : FM cy w (q + 1) 0 300) : Met l yX8_meanPressure wsX8_meanPressure ({ frames := 2, cells := 0, slots := 0, locals := 42 }) (PcW D cy lo n w [.ref q]) (va_Qd (fun (r : UInt64) (u : Nat → va_E) => r = MPV ∧ (∃ fs, u q = .inr (8, .int 0 :: fs)) ∧ fr q 22 w u) (fun u t => va_P D vwCl (rl lo n u) t.heap) (fun q : Nat => lo ≤ q)) 0 0 (fun q : Nat => lo ≤ q) := by
  refine Met.ofW (cc := cX8_meanPressure) (maxL := 3) (ret := (some .double)) (by decide) rfl ?_
  intro p e s m args below meth c s₁ B hml hv
  obtain ⟨rfl, hP, hK, hS⟩ := x_entry hv
  have hx := B.exec
  have hb := B.bytes
  have hr := B.returns
  have hts := atoms_spec (ws := wsX8_meanPressure) B.pre
  have hown : s.vm.findClass RX8 = some m.cls := findClass_of_methodNamed B.named
  have hlocks := B.notSynchronized
  have iX8 : ∀ w ∈ u_ws RX8 TX8 8, w ∈ wsX8_meanPressure := by decide +kernel
  have hl := lv_entry ([.ref q]) (n := 3) (Nat.le_of_ble_eq_true rfl)
  rw [lg_entry_eq]
  generalize (lg_sl ([.ref q]) ++ List.replicate (3 - (lg_sl ([.ref q])).length) Slot.unset).toArray = ls at hl ⊢
  have hl : lv_has ls 3 [(0, .ref q)] := hl
  have hfr : fr q 22 w w := fr.rf
  refine lv_aload_n hx hb dX8_meanPressure_0 rfl (lv_at hl 0 rfl) ?_
  refine lv_iconst (v := 0) hx hb dX8_meanPressure_1 (by decide) ?_
  refine x_put (ty := tyX8 0) (ref := RX8) (C := RX8) (T := TX8) (N := 8) (ci := 8) (v := .int (0 : Int32)) hx hb hts iX8 tyX8 tyX8_ok nmX8 hown hK.1 hP hS (by omega) (by omega) hM.self rfl 0 (by decide) (hts (.fieldLink RX8 29 "PoreFieldModel" "thrown" "I") (by decide +kernel)) (fun _ h9 => h9) rfl (by decide +kernel) rfl rfl (Nat.le_of_ble_eq_true rfl) dX8_meanPressure_2 (fun H locs hP hS => ?_)
  refine x_gen hP (fun v1 e1 hP => ?_)
  have hF : FM cy v1 (q + 1) 0 300 := by rw [e1]; exact hF.o (by omega)
  have hM : MM cy v1 q 0 5 0 0 0 := by rw [e1]; exact hM.up_self (th' := 0) (pr' := 5) (bk' := 0) (bo' := 0) (bw' := 0)
  have hB : LB cy v1 q := by rw [e1]; exact hB.o (by omega)
  have hfr : fr q 22 w v1 := by rw [e1]; exact hfr.up (by omega) (by omega)
  refine lv_iconst (v := 0) hx hb dX8_meanPressure_5 (by decide) ?_
  refine lv_istore_n (lv' := [(1, .int (0 : Int32)), (0, .ref q)]) hx hb dX8_meanPressure_6 rfl hl (by decide) rfl (fun ls hl => ?_)
  refine lv_iconst (v := 0) hx hb dX8_meanPressure_7 (by decide) ?_
  refine lv_istore_n (lv' := [(2, .int (0 : Int32)), (1, .int (0 : Int32)), (0, .ref q)]) hx hb dX8_meanPressure_8 rfl hl (by decide) rfl (fun ls hl => ?_)
  have L1 : ∀ (r k : Nat) (H : Heap) (locs : List Loc) (ls : Array Slot), k + r = 16 → lv_has ls 3 [(2, .int (nI k)), (1, .int (0 : Int32)), (0, .ref q)] → va_P D vwCl (rl lo n v1) H → va_S (fun q : Nat => lo ≤ q) s.heap H locs → W p l e (headSpec wsX8_meanPressure ({ frames := 2, cells := 0, slots := 0, locals := 42 })).room s m (([.ref q] : List Value).toArray) below meth c H locs 0 0 (MQ below (va_Qd (fun (r : UInt64) (u : Nat → va_E) => r = MPV ∧ (∃ fs, u q = .inr (8, .int 0 :: fs)) ∧ fr q 22 w u) (fun u t => va_P D vwCl (rl lo n u) t.heap) (fun q : Nat => lo ≤ q)) (([.ref q] : List Value).toArray) s 0 0 (fun q : Nat => lo ≤ q)) (F0 m 9 ls []) := by
    intro r
    induction r with
    | zero =>
      intro k H locs ls hk hl hP hS
      have e9 : k = 16 := by omega
      subst k
      refine lv_iload_n hx hb dX8_meanPressure_9 rfl (lv_at hl 0 rfl) ?_
      refine lv_bipush (v := 16) hx hb dX8_meanPressure_10 (by decide) ?_
      refine lv_icmp_ge (tgt := 32) hx hb dX8_meanPressure_12 (by decide) (fun _ => ?_) (fun h => absurd ((br_le (show (16 : Int32) = nI 16 from rfl) (show (nI 16) = nI 16 from rfl) (by omega) (by omega)).mpr (by omega)) h)
      refine lv_iload_n hx hb dX8_meanPressure_32 rfl (lv_at hl 1 rfl) ?_
      refine lv_i2d hx hb dX8_meanPressure_33 ?_
      refine lv_ldc2d (own := RX8) (v := 4625196817309499392) hx hb hown (hts (.constantDouble RX8 139 (4625196817309499392)) (by decide +kernel)) dX8_meanPressure_34 ?_
      refine lv_ddiv hx hb dX8_meanPressure_37 mpv_n ?_
      exact W.dret (v := MPV) hx hb hr (fun tE ht hW => ⟨⟨MPV, v1, rfl, ⟨rfl, ⟨_, hM.self⟩, hfr⟩, x_at ht hP⟩, hS.F ht⟩) hS.2.2 dX8_meanPressure_38
    | succ r ih =>
      intro k H locs ls hk hl hP hS
      refine lv_iload_n hx hb dX8_meanPressure_9 rfl (lv_at hl 0 rfl) ?_
      refine lv_bipush (v := 16) hx hb dX8_meanPressure_10 (by decide) ?_
      refine lv_icmp_ge (tgt := 32) hx hb dX8_meanPressure_12 (by decide) (fun h => absurd h (fun h9 => absurd ((br_le (show (16 : Int32) = nI 16 from rfl) (show (nI k) = nI k from rfl) (by omega) (by omega)).mp h9) (by omega))) (fun _ => ?_)
      refine lv_iload_n hx hb dX8_meanPressure_15 rfl (lv_at hl 1 rfl) ?_
      refine lv_aload_n hx hb dX8_meanPressure_16 rfl (lv_at hl 2 rfl) ?_
      refine x_get (ref := RX8) (C := RX8) (T := TX8) (N := 8) (ci := 8) (v := .ref (q + 1)) hx hb hts iX8 hown hK.1 hP (by omega) (by omega) hM.self rfl 1 (by decide) (hts (.fieldLink RX8 10 "PoreFieldModel" "field" "LPoreFieldModel$Field;") (by decide +kernel)) (fun _ h9 => h9) rfl dX8_meanPressure_17 ?_
      refine lv_iload_n hx hb dX8_meanPressure_20 rfl (lv_at hl 0 rfl) ?_
      obtain ⟨d1, g1, q1⟩ := hF.has
      obtain ⟨r1, m1, t1⟩ := hF.room
      refine x_calli (va_runV (As := [.int (nI k)]) (rest := [.int (0 : Int32)]) ⟨hx, hb, hml, hown, hts⟩ (c_X7_pressure l D cy lo n v1 (q + 1) (by omega) (by omega) 0 0 10 300 0 hF.self d1 g1 r1 m1 k (by omega) (by rw [t1 _ (by omega)]; decide)) (cwV 1 hts gX8_meanPressure_X7_pressure rfl rfl rfl (by decide +kernel) ⟨Nat.le_of_ble_eq_true rfl, Nat.le_of_ble_eq_true rfl⟩) (preV hP hK (x_recv (ci := 7) (q := (RX7, TX7, 14)) hK.1 hP (by omega) (by omega) rfl hF.self)) rfl rfl hl.1 rfl (lv_room (Nat.le_of_ble_eq_true rfl)) dX8_meanPressure_21 ⟨Nat.le_of_ble_eq_true rfl, Nat.le_of_ble_eq_true rfl⟩) hS (fun H locs hP hS => ?_)
      refine x_top (v' := (0 : Int32)) (by rw [q1 _ (by omega), q1 _ (by omega), q1 _ (by omega), t1 _ (by omega)]; decide) ?_
      refine lv_iadd hx hb dX8_meanPressure_24 ?_
      refine x_top (v' := 0) (by decide) ?_
      refine lv_istore_n (lv' := [(1, .int (0 : Int32)), (2, .int (nI k)), (0, .ref q)]) hx hb dX8_meanPressure_25 rfl hl (by decide) rfl (fun ls hl => ?_)
      refine lv_iinc (v := (nI (k + 1))) (lv' := [(2, .int (nI (k + 1))), (1, .int (0 : Int32)), (0, .ref q)]) hx hb dX8_meanPressure_26 hl (k := 1) rfl (nI_1 _) (by decide) rfl (fun ls hl => ?_)
      refine lv_goto (tgt := 9) hx hb dX8_meanPressure_29 (by decide) ?_
      exact ih (k + 1) _ _ _ (by omega) (lv_sub hl [0, 1, 2] rfl) hP hS
  exact L1 16 0 _ _ _ (by omega) (lv_sub hl [0, 1, 2] rfl) hP hS
