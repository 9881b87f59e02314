/-! the reckoner: digest -/
/-- the digest's way through k CELLS -/
def dg (a : Int64) : Nat → Int64
  | 0 => a
  | k + 1 => ((((dg a k * 31 + 40) * 31 + 0) * 31 + 0) * 31 + 0) * 31 + 0
set_option maxRecDepth 100000 in
set_option maxHeartbeats 1000000 in
/-- digest -/
theorem c_X8_digest (l : Launch) (D : va_G) (cy : Nat → ClassId) (lo n : Nat) (w : Nat → va_E) (q : Nat) (h1 : lo ≤ q) (h2 : q + 22 ≤ lo + n) (th : Int32) (hM : MM cy w q th 5 0 0 0) (hB : LB cy w q) (hF : FM cy w (q + 1) 0 300) : Met l yX8_digest wsX8_digest ({ frames := 5, cells := 16, slots := 215, locals := 128 }) (PcN D cy lo n w [.ref q]) (va_Ql (fun (r : Int64) (u : Nat → va_E) => r = 3033182947888530339 ∧ (∃ fs, u q = .inr (8, .int 0 :: fs)) ∧ ∀ a, a < lo + n → (a < q ∨ q + 22 ≤ a) → u a = w a) (fun u tE => va_P D vwCl (rl lo (n + 1 + 15) u) tE.heap ∧ tE.heap.size = lo + (n + 1 + 15)) (fun q : Nat => lo ≤ q)) 16 215 (fun q : Nat => lo ≤ q) := by
  refine Met.ofW (cc := cX8_digest) (maxL := 5) (ret := (some .long)) (by decide) rfl ?_
  intro p e s m args below meth c s₁ B hml hv
  obtain ⟨rfl, hsz, hP, hK, hS⟩ := n_entry hv
  have hx := B.exec
  have hb := B.bytes
  have hr := B.returns
  have hts := atoms_spec (ws := wsX8_digest) B.pre
  have hown : s.vm.findClass RX8 = some m.cls := findClass_of_methodNamed B.named
  have hlocks := B.notSynchronized
  have iX7 : ∀ w ∈ u_ws RX7 TX7 14, w ∈ wsX8_digest := by decide +kernel
  have iX8 : ∀ w ∈ u_ws RX8 TX8 8, w ∈ wsX8_digest := by decide +kernel
  have hl := lv_entry ([.ref q]) (n := 5) (Nat.le_of_ble_eq_true rfl)
  rw [lg_entry_eq]
  generalize (lg_sl ([.ref q]) ++ List.replicate (5 - (lg_sl ([.ref q])).length) Slot.unset).toArray = ls at hl ⊢
  have hl : lv_has ls 5 [(0, .ref q)] := hl
  have hof : ∀ a, a < lo + n → (a < q ∨ q + 22 ≤ a) → w a = w a := fun _ _ _ => rfl
  refine lv_aload_n hx hb dX8_digest_0 rfl (lv_at hl 0 rfl) ?_
  refine lv_iconst (v := 0) hx hb dX8_digest_1 (by decide) ?_
  refine x_put (ty := tyX8 0) (ref := RX8) (C := RX8) (T := TX8) (N := 8) (ci := 8) (v := .int (0 : Int32)) hx hb hts iX8 tyX8 tyX8_ok nmX8 hown hK.1.1 hP hS (by omega) (by omega) hM.self rfl 0 (by decide) (hts (.fieldLink RX8 29 "PoreFieldModel" "thrown" "I") (by decide +kernel)) (fun _ h9 => h9) rfl (by decide +kernel) rfl rfl (Nat.le_of_ble_eq_true rfl) dX8_digest_2 (fun H locs hP hS => ?_)
  refine x_gen hP (fun v1 e1 hP => ?_)
  have hF : FM cy v1 (q + 1) 0 300 := by rw [e1]; exact hF.o (by omega)
  have hM : MM cy v1 q 0 5 0 0 0 := by rw [e1]; exact hM.up_self (th' := 0) (pr' := 5) (bk' := 0) (bo' := 0) (bw' := 0)
  have hB : LB cy v1 q := by rw [e1]; exact hB.o (by omega)
  have hof : ∀ a, a < lo + n → (a < q ∨ q + 22 ≤ a) → v1 a = w a := fun a h8 h9 => by rw [e1]; exact (xu_ne (by omega)).trans (hof a h8 h9)
  refine lv_ldc2 (own := RX8) (v := 5406) hx hb hown (hts (.constantLong RX8 148 (5406)) (by decide +kernel)) dX8_digest_5 ?_
  refine lv_lstore_n (lv' := [(1, .long (5406 : Int64)), (0, .ref q)]) hx hb dX8_digest_8 rfl hl (by decide) rfl (fun ls hl => ?_)
  refine lv_iconst (v := 0) hx hb dX8_digest_9 (by decide) ?_
  refine lv_istore_n (lv' := [(3, .int (0 : Int32)), (1, .long (5406 : Int64)), (0, .ref q)]) hx hb dX8_digest_10 rfl hl (by decide) rfl (fun ls hl => ?_)
  refine lv_iload_n hx hb dX8_digest_11 rfl (lv_at hl 0 rfl) ?_
  refine lv_bipush (v := 14) hx hb dX8_digest_12 (by decide) ?_
  refine lv_icmp_gt (tgt := 36) hx hb dX8_digest_14 (by decide) (fun h => absurd h (by decide)) (fun _ => ?_)
  refine lv_lload_n hx hb dX8_digest_17 rfl (lv_at hl 1 rfl) ?_
  refine lv_ldc2 (own := RX8) (v := 31) hx hb hown (hts (.constantLong RX8 150 (31)) (by decide +kernel)) dX8_digest_18 ?_
  refine lv_lmul hx hb dX8_digest_21 ?_
  refine x_topl (v' := 167586) (by decide +kernel) ?_
  refine lv_aload_n hx hb dX8_digest_22 rfl (lv_at hl 2 rfl) ?_
  refine lv_iload_n hx hb dX8_digest_23 rfl (lv_at hl 0 rfl) ?_
  refine x_calli (va_runV (As := [.int (0 : Int32)]) (rest := [.long (167586 : Int64)]) ⟨hx, hb, hml, hown, hts⟩ (c_X8_manyNow_0 l D cy lo n v1 q (by omega) (by omega) 0 hM hB hF ) (cwV 1 hts gX8_digest_X8_manyNow rfl rfl rfl (by decide +kernel) ⟨Nat.le_of_ble_eq_true rfl, Nat.le_of_ble_eq_true rfl⟩) (preV hP hK.1 (x_recv (ci := 8) (q := (RX8, TX8, 8)) hK.1.1 hP (by omega) (by omega) rfl hM.self)) rfl rfl hl.1 rfl (lv_room (Nat.le_of_ble_eq_true rfl)) dX8_digest_24 ⟨Nat.le_of_ble_eq_true rfl, Nat.le_of_ble_eq_true rfl⟩) hS (fun H locs hP hS => ?_)
  refine lv_i2l hx hb dX8_digest_27 rfl ?_
  refine x_topl (v' := 0) (by decide +kernel) ?_
  refine lv_ladd hx hb dX8_digest_28 ?_
  refine x_topl (v' := 167586) (by decide +kernel) ?_
  refine lv_lstore_n (lv' := [(1, .long (167586 : Int64)), (3, .int (0 : Int32)), (0, .ref q)]) hx hb dX8_digest_29 rfl hl (by decide) rfl (fun ls hl => ?_)
  refine lv_iinc (v := (1 : Int32)) (lv' := [(3, .int (1 : Int32)), (1, .long (167586 : Int64)), (0, .ref q)]) hx hb dX8_digest_30 hl (k := 1) rfl (by decide) (by decide) rfl (fun ls hl => ?_)
  refine lv_goto (tgt := 11) hx hb dX8_digest_33 (by decide) ?_
  refine lv_iload_n hx hb dX8_digest_11 rfl (lv_at hl 0 rfl) ?_
  refine lv_bipush (v := 14) hx hb dX8_digest_12 (by decide) ?_
  refine lv_icmp_gt (tgt := 36) hx hb dX8_digest_14 (by decide) (fun h => absurd h (by decide)) (fun _ => ?_)
  refine lv_lload_n hx hb dX8_digest_17 rfl (lv_at hl 1 rfl) ?_
  refine lv_ldc2 (own := RX8) (v := 31) hx hb hown (hts (.constantLong RX8 150 (31)) (by decide +kernel)) dX8_digest_18 ?_
  refine lv_lmul hx hb dX8_digest_21 ?_
  refine x_topl (v' := 5195166) (by decide +kernel) ?_
  refine lv_aload_n hx hb dX8_digest_22 rfl (lv_at hl 2 rfl) ?_
  refine lv_iload_n hx hb dX8_digest_23 rfl (lv_at hl 0 rfl) ?_
  refine x_calli (va_runV (As := [.int (1 : Int32)]) (rest := [.long (5195166 : Int64)]) ⟨hx, hb, hml, hown, hts⟩ (c_X8_manyNow_1 l D cy lo n v1 q (by omega) (by omega) 0 hM hB hF ) (cwV 1 hts gX8_digest_X8_manyNow rfl rfl rfl (by decide +kernel) ⟨Nat.le_of_ble_eq_true rfl, Nat.le_of_ble_eq_true rfl⟩) (preV hP hK.1 (x_recv (ci := 8) (q := (RX8, TX8, 8)) hK.1.1 hP (by omega) (by omega) rfl hM.self)) rfl rfl hl.1 rfl (lv_room (Nat.le_of_ble_eq_true rfl)) dX8_digest_24 ⟨Nat.le_of_ble_eq_true rfl, Nat.le_of_ble_eq_true rfl⟩) hS (fun H locs hP hS => ?_)
  refine lv_i2l hx hb dX8_digest_27 rfl ?_
  refine x_topl (v' := 0) (by decide +kernel) ?_
  refine lv_ladd hx hb dX8_digest_28 ?_
  refine x_topl (v' := 5195166) (by decide +kernel) ?_
  refine lv_lstore_n (lv' := [(1, .long (5195166 : Int64)), (3, .int (1 : Int32)), (0, .ref q)]) hx hb dX8_digest_29 rfl hl (by decide) rfl (fun ls hl => ?_)
  refine lv_iinc (v := (2 : Int32)) (lv' := [(3, .int (2 : Int32)), (1, .long (5195166 : Int64)), (0, .ref q)]) hx hb dX8_digest_30 hl (k := 1) rfl (by decide) (by decide) rfl (fun ls hl => ?_)
  refine lv_goto (tgt := 11) hx hb dX8_digest_33 (by decide) ?_
  refine lv_iload_n hx hb dX8_digest_11 rfl (lv_at hl 0 rfl) ?_
  refine lv_bipush (v := 14) hx hb dX8_digest_12 (by decide) ?_
  refine lv_icmp_gt (tgt := 36) hx hb dX8_digest_14 (by decide) (fun h => absurd h (by decide)) (fun _ => ?_)
  refine lv_lload_n hx hb dX8_digest_17 rfl (lv_at hl 1 rfl) ?_
  refine lv_ldc2 (own := RX8) (v := 31) hx hb hown (hts (.constantLong RX8 150 (31)) (by decide +kernel)) dX8_digest_18 ?_
  refine lv_lmul hx hb dX8_digest_21 ?_
  refine x_topl (v' := 161050146) (by decide +kernel) ?_
  refine lv_aload_n hx hb dX8_digest_22 rfl (lv_at hl 2 rfl) ?_
  refine lv_iload_n hx hb dX8_digest_23 rfl (lv_at hl 0 rfl) ?_
  refine x_calli (va_runV (As := [.int (2 : Int32)]) (rest := [.long (161050146 : Int64)]) ⟨hx, hb, hml, hown, hts⟩ (c_X8_manyNow_2 l D cy lo n v1 q (by omega) (by omega) 0 hM hB hF ) (cwV 1 hts gX8_digest_X8_manyNow rfl rfl rfl (by decide +kernel) ⟨Nat.le_of_ble_eq_true rfl, Nat.le_of_ble_eq_true rfl⟩) (preV hP hK.1 (x_recv (ci := 8) (q := (RX8, TX8, 8)) hK.1.1 hP (by omega) (by omega) rfl hM.self)) rfl rfl hl.1 rfl (lv_room (Nat.le_of_ble_eq_true rfl)) dX8_digest_24 ⟨Nat.le_of_ble_eq_true rfl, Nat.le_of_ble_eq_true rfl⟩) hS (fun H locs hP hS => ?_)
  refine lv_i2l hx hb dX8_digest_27 rfl ?_
  refine x_topl (v' := 0) (by decide +kernel) ?_
  refine lv_ladd hx hb dX8_digest_28 ?_
  refine x_topl (v' := 161050146) (by decide +kernel) ?_
  refine lv_lstore_n (lv' := [(1, .long (161050146 : Int64)), (3, .int (2 : Int32)), (0, .ref q)]) hx hb dX8_digest_29 rfl hl (by decide) rfl (fun ls hl => ?_)
  refine lv_iinc (v := (3 : Int32)) (lv' := [(3, .int (3 : Int32)), (1, .long (161050146 : Int64)), (0, .ref q)]) hx hb dX8_digest_30 hl (k := 1) rfl (by decide) (by decide) rfl (fun ls hl => ?_)
  refine lv_goto (tgt := 11) hx hb dX8_digest_33 (by decide) ?_
  refine lv_iload_n hx hb dX8_digest_11 rfl (lv_at hl 0 rfl) ?_
  refine lv_bipush (v := 14) hx hb dX8_digest_12 (by decide) ?_
  refine lv_icmp_gt (tgt := 36) hx hb dX8_digest_14 (by decide) (fun h => absurd h (by decide)) (fun _ => ?_)
  refine lv_lload_n hx hb dX8_digest_17 rfl (lv_at hl 1 rfl) ?_
  refine lv_ldc2 (own := RX8) (v := 31) hx hb hown (hts (.constantLong RX8 150 (31)) (by decide +kernel)) dX8_digest_18 ?_
  refine lv_lmul hx hb dX8_digest_21 ?_
  refine x_topl (v' := 4992554526) (by decide +kernel) ?_
  refine lv_aload_n hx hb dX8_digest_22 rfl (lv_at hl 2 rfl) ?_
  refine lv_iload_n hx hb dX8_digest_23 rfl (lv_at hl 0 rfl) ?_
  refine x_calli (va_runV (As := [.int (3 : Int32)]) (rest := [.long (4992554526 : Int64)]) ⟨hx, hb, hml, hown, hts⟩ (c_X8_manyNow_3 l D cy lo n v1 q (by omega) (by omega) 0 hM hB hF ) (cwV 1 hts gX8_digest_X8_manyNow rfl rfl rfl (by decide +kernel) ⟨Nat.le_of_ble_eq_true rfl, Nat.le_of_ble_eq_true rfl⟩) (preV hP hK.1 (x_recv (ci := 8) (q := (RX8, TX8, 8)) hK.1.1 hP (by omega) (by omega) rfl hM.self)) rfl rfl hl.1 rfl (lv_room (Nat.le_of_ble_eq_true rfl)) dX8_digest_24 ⟨Nat.le_of_ble_eq_true rfl, Nat.le_of_ble_eq_true rfl⟩) hS (fun H locs hP hS => ?_)
  refine lv_i2l hx hb dX8_digest_27 rfl ?_
  refine x_topl (v' := 0) (by decide +kernel) ?_
  refine lv_ladd hx hb dX8_digest_28 ?_
  refine x_topl (v' := 4992554526) (by decide +kernel) ?_
  refine lv_lstore_n (lv' := [(1, .long (4992554526 : Int64)), (3, .int (3 : Int32)), (0, .ref q)]) hx hb dX8_digest_29 rfl hl (by decide) rfl (fun ls hl => ?_)
  refine lv_iinc (v := (4 : Int32)) (lv' := [(3, .int (4 : Int32)), (1, .long (4992554526 : Int64)), (0, .ref q)]) hx hb dX8_digest_30 hl (k := 1) rfl (by decide) (by decide) rfl (fun ls hl => ?_)
  refine lv_goto (tgt := 11) hx hb dX8_digest_33 (by decide) ?_
  refine lv_iload_n hx hb dX8_digest_11 rfl (lv_at hl 0 rfl) ?_
  refine lv_bipush (v := 14) hx hb dX8_digest_12 (by decide) ?_
  refine lv_icmp_gt (tgt := 36) hx hb dX8_digest_14 (by decide) (fun h => absurd h (by decide)) (fun _ => ?_)
  refine lv_lload_n hx hb dX8_digest_17 rfl (lv_at hl 1 rfl) ?_
  refine lv_ldc2 (own := RX8) (v := 31) hx hb hown (hts (.constantLong RX8 150 (31)) (by decide +kernel)) dX8_digest_18 ?_
  refine lv_lmul hx hb dX8_digest_21 ?_
  refine x_topl (v' := 154769190306) (by decide +kernel) ?_
  refine lv_aload_n hx hb dX8_digest_22 rfl (lv_at hl 2 rfl) ?_
  refine lv_iload_n hx hb dX8_digest_23 rfl (lv_at hl 0 rfl) ?_
  refine x_calli (va_runV (As := [.int (4 : Int32)]) (rest := [.long (154769190306 : Int64)]) ⟨hx, hb, hml, hown, hts⟩ (c_X8_manyNow_4 l D cy lo n v1 q (by omega) (by omega) 0 hM hB hF ) (cwV 1 hts gX8_digest_X8_manyNow rfl rfl rfl (by decide +kernel) ⟨Nat.le_of_ble_eq_true rfl, Nat.le_of_ble_eq_true rfl⟩) (preV hP hK.1 (x_recv (ci := 8) (q := (RX8, TX8, 8)) hK.1.1 hP (by omega) (by omega) rfl hM.self)) rfl rfl hl.1 rfl (lv_room (Nat.le_of_ble_eq_true rfl)) dX8_digest_24 ⟨Nat.le_of_ble_eq_true rfl, Nat.le_of_ble_eq_true rfl⟩) hS (fun H locs hP hS => ?_)
  refine lv_i2l hx hb dX8_digest_27 rfl ?_
  refine x_topl (v' := 0) (by decide +kernel) ?_
  refine lv_ladd hx hb dX8_digest_28 ?_
  refine x_topl (v' := 154769190306) (by decide +kernel) ?_
  refine lv_lstore_n (lv' := [(1, .long (154769190306 : Int64)), (3, .int (4 : Int32)), (0, .ref q)]) hx hb dX8_digest_29 rfl hl (by decide) rfl (fun ls hl => ?_)
  refine lv_iinc (v := (5 : Int32)) (lv' := [(3, .int (5 : Int32)), (1, .long (154769190306 : Int64)), (0, .ref q)]) hx hb dX8_digest_30 hl (k := 1) rfl (by decide) (by decide) rfl (fun ls hl => ?_)
  refine lv_goto (tgt := 11) hx hb dX8_digest_33 (by decide) ?_
  refine lv_iload_n hx hb dX8_digest_11 rfl (lv_at hl 0 rfl) ?_
  refine lv_bipush (v := 14) hx hb dX8_digest_12 (by decide) ?_
  refine lv_icmp_gt (tgt := 36) hx hb dX8_digest_14 (by decide) (fun h => absurd h (by decide)) (fun _ => ?_)
  refine lv_lload_n hx hb dX8_digest_17 rfl (lv_at hl 1 rfl) ?_
  refine lv_ldc2 (own := RX8) (v := 31) hx hb hown (hts (.constantLong RX8 150 (31)) (by decide +kernel)) dX8_digest_18 ?_
  refine lv_lmul hx hb dX8_digest_21 ?_
  refine x_topl (v' := 4797844899486) (by decide +kernel) ?_
  refine lv_aload_n hx hb dX8_digest_22 rfl (lv_at hl 2 rfl) ?_
  refine lv_iload_n hx hb dX8_digest_23 rfl (lv_at hl 0 rfl) ?_
  refine x_calli (va_runV (As := [.int (5 : Int32)]) (rest := [.long (4797844899486 : Int64)]) ⟨hx, hb, hml, hown, hts⟩ (c_X8_manyNow_5 l D cy lo n v1 q (by omega) (by omega) 0 hM hB hF ) (cwV 1 hts gX8_digest_X8_manyNow rfl rfl rfl (by decide +kernel) ⟨Nat.le_of_ble_eq_true rfl, Nat.le_of_ble_eq_true rfl⟩) (preV hP hK.1 (x_recv (ci := 8) (q := (RX8, TX8, 8)) hK.1.1 hP (by omega) (by omega) rfl hM.self)) rfl rfl hl.1 rfl (lv_room (Nat.le_of_ble_eq_true rfl)) dX8_digest_24 ⟨Nat.le_of_ble_eq_true rfl, Nat.le_of_ble_eq_true rfl⟩) hS (fun H locs hP hS => ?_)
  refine lv_i2l hx hb dX8_digest_27 rfl ?_
  refine x_topl (v' := 0) (by decide +kernel) ?_
  refine lv_ladd hx hb dX8_digest_28 ?_
  refine x_topl (v' := 4797844899486) (by decide +kernel) ?_
  refine lv_lstore_n (lv' := [(1, .long (4797844899486 : Int64)), (3, .int (5 : Int32)), (0, .ref q)]) hx hb dX8_digest_29 rfl hl (by decide) rfl (fun ls hl => ?_)
  refine lv_iinc (v := (6 : Int32)) (lv' := [(3, .int (6 : Int32)), (1, .long (4797844899486 : Int64)), (0, .ref q)]) hx hb dX8_digest_30 hl (k := 1) rfl (by decide) (by decide) rfl (fun ls hl => ?_)
  refine lv_goto (tgt := 11) hx hb dX8_digest_33 (by decide) ?_
  refine lv_iload_n hx hb dX8_digest_11 rfl (lv_at hl 0 rfl) ?_
  refine lv_bipush (v := 14) hx hb dX8_digest_12 (by decide) ?_
  refine lv_icmp_gt (tgt := 36) hx hb dX8_digest_14 (by decide) (fun h => absurd h (by decide)) (fun _ => ?_)
  refine lv_lload_n hx hb dX8_digest_17 rfl (lv_at hl 1 rfl) ?_
  refine lv_ldc2 (own := RX8) (v := 31) hx hb hown (hts (.constantLong RX8 150 (31)) (by decide +kernel)) dX8_digest_18 ?_
  refine lv_lmul hx hb dX8_digest_21 ?_
  refine x_topl (v' := 148733191884066) (by decide +kernel) ?_
  refine lv_aload_n hx hb dX8_digest_22 rfl (lv_at hl 2 rfl) ?_
  refine lv_iload_n hx hb dX8_digest_23 rfl (lv_at hl 0 rfl) ?_
  refine x_calli (va_runV (As := [.int (6 : Int32)]) (rest := [.long (148733191884066 : Int64)]) ⟨hx, hb, hml, hown, hts⟩ (c_X8_manyNow_6 l D cy lo n v1 q (by omega) (by omega) 0 hM hB hF ) (cwV 1 hts gX8_digest_X8_manyNow rfl rfl rfl (by decide +kernel) ⟨Nat.le_of_ble_eq_true rfl, Nat.le_of_ble_eq_true rfl⟩) (preV hP hK.1 (x_recv (ci := 8) (q := (RX8, TX8, 8)) hK.1.1 hP (by omega) (by omega) rfl hM.self)) rfl rfl hl.1 rfl (lv_room (Nat.le_of_ble_eq_true rfl)) dX8_digest_24 ⟨Nat.le_of_ble_eq_true rfl, Nat.le_of_ble_eq_true rfl⟩) hS (fun H locs hP hS => ?_)
  refine lv_i2l hx hb dX8_digest_27 rfl ?_
  refine x_topl (v' := 0) (by decide +kernel) ?_
  refine lv_ladd hx hb dX8_digest_28 ?_
  refine x_topl (v' := 148733191884066) (by decide +kernel) ?_
  refine lv_lstore_n (lv' := [(1, .long (148733191884066 : Int64)), (3, .int (6 : Int32)), (0, .ref q)]) hx hb dX8_digest_29 rfl hl (by decide) rfl (fun ls hl => ?_)
  refine lv_iinc (v := (7 : Int32)) (lv' := [(3, .int (7 : Int32)), (1, .long (148733191884066 : Int64)), (0, .ref q)]) hx hb dX8_digest_30 hl (k := 1) rfl (by decide) (by decide) rfl (fun ls hl => ?_)
  refine lv_goto (tgt := 11) hx hb dX8_digest_33 (by decide) ?_
  refine lv_iload_n hx hb dX8_digest_11 rfl (lv_at hl 0 rfl) ?_
  refine lv_bipush (v := 14) hx hb dX8_digest_12 (by decide) ?_
  refine lv_icmp_gt (tgt := 36) hx hb dX8_digest_14 (by decide) (fun h => absurd h (by decide)) (fun _ => ?_)
  refine lv_lload_n hx hb dX8_digest_17 rfl (lv_at hl 1 rfl) ?_
  refine lv_ldc2 (own := RX8) (v := 31) hx hb hown (hts (.constantLong RX8 150 (31)) (by decide +kernel)) dX8_digest_18 ?_
  refine lv_lmul hx hb dX8_digest_21 ?_
  refine x_topl (v' := 4610728948406046) (by decide +kernel) ?_
  refine lv_aload_n hx hb dX8_digest_22 rfl (lv_at hl 2 rfl) ?_
  refine lv_iload_n hx hb dX8_digest_23 rfl (lv_at hl 0 rfl) ?_
  refine x_calli (va_runV (As := [.int (7 : Int32)]) (rest := [.long (4610728948406046 : Int64)]) ⟨hx, hb, hml, hown, hts⟩ (c_X8_manyNow_7 l D cy lo n v1 q (by omega) (by omega) 0 hM hB hF ) (cwV 1 hts gX8_digest_X8_manyNow rfl rfl rfl (by decide +kernel) ⟨Nat.le_of_ble_eq_true rfl, Nat.le_of_ble_eq_true rfl⟩) (preV hP hK.1 (x_recv (ci := 8) (q := (RX8, TX8, 8)) hK.1.1 hP (by omega) (by omega) rfl hM.self)) rfl rfl hl.1 rfl (lv_room (Nat.le_of_ble_eq_true rfl)) dX8_digest_24 ⟨Nat.le_of_ble_eq_true rfl, Nat.le_of_ble_eq_true rfl⟩) hS (fun H locs hP hS => ?_)
  refine lv_i2l hx hb dX8_digest_27 rfl ?_
  refine x_topl (v' := 0) (by decide +kernel) ?_
  refine lv_ladd hx hb dX8_digest_28 ?_
  refine x_topl (v' := 4610728948406046) (by decide +kernel) ?_
  refine lv_lstore_n (lv' := [(1, .long (4610728948406046 : Int64)), (3, .int (7 : Int32)), (0, .ref q)]) hx hb dX8_digest_29 rfl hl (by decide) rfl (fun ls hl => ?_)
  refine lv_iinc (v := (8 : Int32)) (lv' := [(3, .int (8 : Int32)), (1, .long (4610728948406046 : Int64)), (0, .ref q)]) hx hb dX8_digest_30 hl (k := 1) rfl (by decide) (by decide) rfl (fun ls hl => ?_)
  refine lv_goto (tgt := 11) hx hb dX8_digest_33 (by decide) ?_
  refine lv_iload_n hx hb dX8_digest_11 rfl (lv_at hl 0 rfl) ?_
  refine lv_bipush (v := 14) hx hb dX8_digest_12 (by decide) ?_
  refine lv_icmp_gt (tgt := 36) hx hb dX8_digest_14 (by decide) (fun h => absurd h (by decide)) (fun _ => ?_)
  refine lv_lload_n hx hb dX8_digest_17 rfl (lv_at hl 1 rfl) ?_
  refine lv_ldc2 (own := RX8) (v := 31) hx hb hown (hts (.constantLong RX8 150 (31)) (by decide +kernel)) dX8_digest_18 ?_
  refine lv_lmul hx hb dX8_digest_21 ?_
  refine x_topl (v' := 142932597400587426) (by decide +kernel) ?_
  refine lv_aload_n hx hb dX8_digest_22 rfl (lv_at hl 2 rfl) ?_
  refine lv_iload_n hx hb dX8_digest_23 rfl (lv_at hl 0 rfl) ?_
  refine x_calli (va_runV (As := [.int (8 : Int32)]) (rest := [.long (142932597400587426 : Int64)]) ⟨hx, hb, hml, hown, hts⟩ (c_X8_manyNow_8 l D cy lo n v1 q (by omega) (by omega) 0 hM hB hF ) (cwV 1 hts gX8_digest_X8_manyNow rfl rfl rfl (by decide +kernel) ⟨Nat.le_of_ble_eq_true rfl, Nat.le_of_ble_eq_true rfl⟩) (preV hP hK.1 (x_recv (ci := 8) (q := (RX8, TX8, 8)) hK.1.1 hP (by omega) (by omega) rfl hM.self)) rfl rfl hl.1 rfl (lv_room (Nat.le_of_ble_eq_true rfl)) dX8_digest_24 ⟨Nat.le_of_ble_eq_true rfl, Nat.le_of_ble_eq_true rfl⟩) hS (fun H locs hP hS => ?_)
  refine lv_i2l hx hb dX8_digest_27 rfl ?_
  refine x_topl (v' := 0) (by decide +kernel) ?_
  refine lv_ladd hx hb dX8_digest_28 ?_
  refine x_topl (v' := 142932597400587426) (by decide +kernel) ?_
  refine lv_lstore_n (lv' := [(1, .long (142932597400587426 : Int64)), (3, .int (8 : Int32)), (0, .ref q)]) hx hb dX8_digest_29 rfl hl (by decide) rfl (fun ls hl => ?_)
  refine lv_iinc (v := (9 : Int32)) (lv' := [(3, .int (9 : Int32)), (1, .long (142932597400587426 : Int64)), (0, .ref q)]) hx hb dX8_digest_30 hl (k := 1) rfl (by decide) (by decide) rfl (fun ls hl => ?_)
  refine lv_goto (tgt := 11) hx hb dX8_digest_33 (by decide) ?_
  refine lv_iload_n hx hb dX8_digest_11 rfl (lv_at hl 0 rfl) ?_
  refine lv_bipush (v := 14) hx hb dX8_digest_12 (by decide) ?_
  refine lv_icmp_gt (tgt := 36) hx hb dX8_digest_14 (by decide) (fun h => absurd h (by decide)) (fun _ => ?_)
  refine lv_lload_n hx hb dX8_digest_17 rfl (lv_at hl 1 rfl) ?_
  refine lv_ldc2 (own := RX8) (v := 31) hx hb hown (hts (.constantLong RX8 150 (31)) (by decide +kernel)) dX8_digest_18 ?_
  refine lv_lmul hx hb dX8_digest_21 ?_
  refine x_topl (v' := 4430910519418210206) (by decide +kernel) ?_
  refine lv_aload_n hx hb dX8_digest_22 rfl (lv_at hl 2 rfl) ?_
  refine lv_iload_n hx hb dX8_digest_23 rfl (lv_at hl 0 rfl) ?_
  refine x_calli (va_runV (As := [.int (9 : Int32)]) (rest := [.long (4430910519418210206 : Int64)]) ⟨hx, hb, hml, hown, hts⟩ (c_X8_manyNow_9 l D cy lo n v1 q (by omega) (by omega) 0 hM hB hF ) (cwV 1 hts gX8_digest_X8_manyNow rfl rfl rfl (by decide +kernel) ⟨Nat.le_of_ble_eq_true rfl, Nat.le_of_ble_eq_true rfl⟩) (preV hP hK.1 (x_recv (ci := 8) (q := (RX8, TX8, 8)) hK.1.1 hP (by omega) (by omega) rfl hM.self)) rfl rfl hl.1 rfl (lv_room (Nat.le_of_ble_eq_true rfl)) dX8_digest_24 ⟨Nat.le_of_ble_eq_true rfl, Nat.le_of_ble_eq_true rfl⟩) hS (fun H locs hP hS => ?_)
  refine lv_i2l hx hb dX8_digest_27 rfl ?_
  refine x_topl (v' := 0) (by decide +kernel) ?_
  refine lv_ladd hx hb dX8_digest_28 ?_
  refine x_topl (v' := 4430910519418210206) (by decide +kernel) ?_
  refine lv_lstore_n (lv' := [(1, .long (4430910519418210206 : Int64)), (3, .int (9 : Int32)), (0, .ref q)]) hx hb dX8_digest_29 rfl hl (by decide) rfl (fun ls hl => ?_)
  refine lv_iinc (v := (10 : Int32)) (lv' := [(3, .int (10 : Int32)), (1, .long (4430910519418210206 : Int64)), (0, .ref q)]) hx hb dX8_digest_30 hl (k := 1) rfl (by decide) (by decide) rfl (fun ls hl => ?_)
  refine lv_goto (tgt := 11) hx hb dX8_digest_33 (by decide) ?_
  refine lv_iload_n hx hb dX8_digest_11 rfl (lv_at hl 0 rfl) ?_
  refine lv_bipush (v := 14) hx hb dX8_digest_12 (by decide) ?_
  refine lv_icmp_gt (tgt := 36) hx hb dX8_digest_14 (by decide) (fun h => absurd h (by decide)) (fun _ => ?_)
  refine lv_lload_n hx hb dX8_digest_17 rfl (lv_at hl 1 rfl) ?_
  refine lv_ldc2 (own := RX8) (v := 31) hx hb hown (hts (.constantLong RX8 150 (31)) (by decide +kernel)) dX8_digest_18 ?_
  refine lv_lmul hx hb dX8_digest_21 ?_
  refine x_topl (v' := 8231017585997655074) (by decide +kernel) ?_
  refine lv_aload_n hx hb dX8_digest_22 rfl (lv_at hl 2 rfl) ?_
  refine lv_iload_n hx hb dX8_digest_23 rfl (lv_at hl 0 rfl) ?_
  refine x_calli (va_runV (As := [.int (10 : Int32)]) (rest := [.long (8231017585997655074 : Int64)]) ⟨hx, hb, hml, hown, hts⟩ (c_X8_manyNow_10 l D cy lo n v1 q (by omega) (by omega) 0 hM hB hF ) (cwV 1 hts gX8_digest_X8_manyNow rfl rfl rfl (by decide +kernel) ⟨Nat.le_of_ble_eq_true rfl, Nat.le_of_ble_eq_true rfl⟩) (preV hP hK.1 (x_recv (ci := 8) (q := (RX8, TX8, 8)) hK.1.1 hP (by omega) (by omega) rfl hM.self)) rfl rfl hl.1 rfl (lv_room (Nat.le_of_ble_eq_true rfl)) dX8_digest_24 ⟨Nat.le_of_ble_eq_true rfl, Nat.le_of_ble_eq_true rfl⟩) hS (fun H locs hP hS => ?_)
  refine lv_i2l hx hb dX8_digest_27 rfl ?_
  refine x_topl (v' := 0) (by decide +kernel) ?_
  refine lv_ladd hx hb dX8_digest_28 ?_
  refine x_topl (v' := 8231017585997655074) (by decide +kernel) ?_
  refine lv_lstore_n (lv' := [(1, .long (8231017585997655074 : Int64)), (3, .int (10 : Int32)), (0, .ref q)]) hx hb dX8_digest_29 rfl hl (by decide) rfl (fun ls hl => ?_)
  refine lv_iinc (v := (11 : Int32)) (lv' := [(3, .int (11 : Int32)), (1, .long (8231017585997655074 : Int64)), (0, .ref q)]) hx hb dX8_digest_30 hl (k := 1) rfl (by decide) (by decide) rfl (fun ls hl => ?_)
  refine lv_goto (tgt := 11) hx hb dX8_digest_33 (by decide) ?_
  refine lv_iload_n hx hb dX8_digest_11 rfl (lv_at hl 0 rfl) ?_
  refine lv_bipush (v := 14) hx hb dX8_digest_12 (by decide) ?_
  refine lv_icmp_gt (tgt := 36) hx hb dX8_digest_14 (by decide) (fun h => absurd h (by decide)) (fun _ => ?_)
  refine lv_lload_n hx hb dX8_digest_17 rfl (lv_at hl 1 rfl) ?_
  refine lv_ldc2 (own := RX8) (v := 31) hx hb hown (hts (.constantLong RX8 150 (31)) (by decide +kernel)) dX8_digest_18 ?_
  refine lv_lmul hx hb dX8_digest_21 ?_
  refine x_topl (v' := -3092871866006415330) (by decide +kernel) ?_
  refine lv_aload_n hx hb dX8_digest_22 rfl (lv_at hl 2 rfl) ?_
  refine lv_iload_n hx hb dX8_digest_23 rfl (lv_at hl 0 rfl) ?_
  refine x_calli (va_runV (As := [.int (11 : Int32)]) (rest := [.long (-3092871866006415330 : Int64)]) ⟨hx, hb, hml, hown, hts⟩ (c_X8_manyNow_11 l D cy lo n v1 q (by omega) (by omega) 0 hM hB hF ) (cwV 1 hts gX8_digest_X8_manyNow rfl rfl rfl (by decide +kernel) ⟨Nat.le_of_ble_eq_true rfl, Nat.le_of_ble_eq_true rfl⟩) (preV hP hK.1 (x_recv (ci := 8) (q := (RX8, TX8, 8)) hK.1.1 hP (by omega) (by omega) rfl hM.self)) rfl rfl hl.1 rfl (lv_room (Nat.le_of_ble_eq_true rfl)) dX8_digest_24 ⟨Nat.le_of_ble_eq_true rfl, Nat.le_of_ble_eq_true rfl⟩) hS (fun H locs hP hS => ?_)
  refine lv_i2l hx hb dX8_digest_27 rfl ?_
  refine x_topl (v' := 0) (by decide +kernel) ?_
  refine lv_ladd hx hb dX8_digest_28 ?_
  refine x_topl (v' := -3092871866006415330) (by decide +kernel) ?_
  refine lv_lstore_n (lv' := [(1, .long (-3092871866006415330 : Int64)), (3, .int (11 : Int32)), (0, .ref q)]) hx hb dX8_digest_29 rfl hl (by decide) rfl (fun ls hl => ?_)
  refine lv_iinc (v := (12 : Int32)) (lv' := [(3, .int (12 : Int32)), (1, .long (-3092871866006415330 : Int64)), (0, .ref q)]) hx hb dX8_digest_30 hl (k := 1) rfl (by decide) (by decide) rfl (fun ls hl => ?_)
  refine lv_goto (tgt := 11) hx hb dX8_digest_33 (by decide) ?_
  refine lv_iload_n hx hb dX8_digest_11 rfl (lv_at hl 0 rfl) ?_
  refine lv_bipush (v := 14) hx hb dX8_digest_12 (by decide) ?_
  refine lv_icmp_gt (tgt := 36) hx hb dX8_digest_14 (by decide) (fun h => absurd h (by decide)) (fun _ => ?_)
  refine lv_lload_n hx hb dX8_digest_17 rfl (lv_at hl 1 rfl) ?_
  refine lv_ldc2 (own := RX8) (v := 31) hx hb hown (hts (.constantLong RX8 150 (31)) (by decide +kernel)) dX8_digest_18 ?_
  refine lv_lmul hx hb dX8_digest_21 ?_
  refine x_topl (v' := -3645307477651117150) (by decide +kernel) ?_
  refine lv_aload_n hx hb dX8_digest_22 rfl (lv_at hl 2 rfl) ?_
  refine lv_iload_n hx hb dX8_digest_23 rfl (lv_at hl 0 rfl) ?_
  refine x_calli (va_runV (As := [.int (12 : Int32)]) (rest := [.long (-3645307477651117150 : Int64)]) ⟨hx, hb, hml, hown, hts⟩ (c_X8_manyNow_12 l D cy lo n v1 q (by omega) (by omega) 0 hM hB hF ) (cwV 1 hts gX8_digest_X8_manyNow rfl rfl rfl (by decide +kernel) ⟨Nat.le_of_ble_eq_true rfl, Nat.le_of_ble_eq_true rfl⟩) (preV hP hK.1 (x_recv (ci := 8) (q := (RX8, TX8, 8)) hK.1.1 hP (by omega) (by omega) rfl hM.self)) rfl rfl hl.1 rfl (lv_room (Nat.le_of_ble_eq_true rfl)) dX8_digest_24 ⟨Nat.le_of_ble_eq_true rfl, Nat.le_of_ble_eq_true rfl⟩) hS (fun H locs hP hS => ?_)
  refine lv_i2l hx hb dX8_digest_27 rfl ?_
  refine x_topl (v' := 0) (by decide +kernel) ?_
  refine lv_ladd hx hb dX8_digest_28 ?_
  refine x_topl (v' := -3645307477651117150) (by decide +kernel) ?_
  refine lv_lstore_n (lv' := [(1, .long (-3645307477651117150 : Int64)), (3, .int (12 : Int32)), (0, .ref q)]) hx hb dX8_digest_29 rfl hl (by decide) rfl (fun ls hl => ?_)
  refine lv_iinc (v := (13 : Int32)) (lv' := [(3, .int (13 : Int32)), (1, .long (-3645307477651117150 : Int64)), (0, .ref q)]) hx hb dX8_digest_30 hl (k := 1) rfl (by decide) (by decide) rfl (fun ls hl => ?_)
  refine lv_goto (tgt := 11) hx hb dX8_digest_33 (by decide) ?_
  refine lv_iload_n hx hb dX8_digest_11 rfl (lv_at hl 0 rfl) ?_
  refine lv_bipush (v := 14) hx hb dX8_digest_12 (by decide) ?_
  refine lv_icmp_gt (tgt := 36) hx hb dX8_digest_14 (by decide) (fun h => absurd h (by decide)) (fun _ => ?_)
  refine lv_lload_n hx hb dX8_digest_17 rfl (lv_at hl 1 rfl) ?_
  refine lv_ldc2 (own := RX8) (v := 31) hx hb hown (hts (.constantLong RX8 150 (31)) (by decide +kernel)) dX8_digest_18 ?_
  refine lv_lmul hx hb dX8_digest_21 ?_
  refine x_topl (v' := -2324067364927321954) (by decide +kernel) ?_
  refine lv_aload_n hx hb dX8_digest_22 rfl (lv_at hl 2 rfl) ?_
  refine lv_iload_n hx hb dX8_digest_23 rfl (lv_at hl 0 rfl) ?_
  refine x_calli (va_runV (As := [.int (13 : Int32)]) (rest := [.long (-2324067364927321954 : Int64)]) ⟨hx, hb, hml, hown, hts⟩ (c_X8_manyNow_13 l D cy lo n v1 q (by omega) (by omega) 0 hM hB hF ) (cwV 1 hts gX8_digest_X8_manyNow rfl rfl rfl (by decide +kernel) ⟨Nat.le_of_ble_eq_true rfl, Nat.le_of_ble_eq_true rfl⟩) (preV hP hK.1 (x_recv (ci := 8) (q := (RX8, TX8, 8)) hK.1.1 hP (by omega) (by omega) rfl hM.self)) rfl rfl hl.1 rfl (lv_room (Nat.le_of_ble_eq_true rfl)) dX8_digest_24 ⟨Nat.le_of_ble_eq_true rfl, Nat.le_of_ble_eq_true rfl⟩) hS (fun H locs hP hS => ?_)
  refine lv_i2l hx hb dX8_digest_27 rfl ?_
  refine x_topl (v' := 0) (by decide +kernel) ?_
  refine lv_ladd hx hb dX8_digest_28 ?_
  refine x_topl (v' := -2324067364927321954) (by decide +kernel) ?_
  refine lv_lstore_n (lv' := [(1, .long (-2324067364927321954 : Int64)), (3, .int (13 : Int32)), (0, .ref q)]) hx hb dX8_digest_29 rfl hl (by decide) rfl (fun ls hl => ?_)
  refine lv_iinc (v := (14 : Int32)) (lv' := [(3, .int (14 : Int32)), (1, .long (-2324067364927321954 : Int64)), (0, .ref q)]) hx hb dX8_digest_30 hl (k := 1) rfl (by decide) (by decide) rfl (fun ls hl => ?_)
  refine lv_goto (tgt := 11) hx hb dX8_digest_33 (by decide) ?_
  refine lv_iload_n hx hb dX8_digest_11 rfl (lv_at hl 0 rfl) ?_
  refine lv_bipush (v := 14) hx hb dX8_digest_12 (by decide) ?_
  refine lv_icmp_gt (tgt := 36) hx hb dX8_digest_14 (by decide) (fun h => absurd h (by decide)) (fun _ => ?_)
  refine lv_lload_n hx hb dX8_digest_17 rfl (lv_at hl 1 rfl) ?_
  refine lv_ldc2 (own := RX8) (v := 31) hx hb hown (hts (.constantLong RX8 150 (31)) (by decide +kernel)) dX8_digest_18 ?_
  refine lv_lmul hx hb dX8_digest_21 ?_
  refine x_topl (v' := 1740887982091225890) (by decide +kernel) ?_
  refine lv_aload_n hx hb dX8_digest_22 rfl (lv_at hl 2 rfl) ?_
  refine lv_iload_n hx hb dX8_digest_23 rfl (lv_at hl 0 rfl) ?_
  refine x_calli (va_runV (As := [.int (14 : Int32)]) (rest := [.long (1740887982091225890 : Int64)]) ⟨hx, hb, hml, hown, hts⟩ (c_X8_manyNow_14 l D cy lo n v1 q (by omega) (by omega) 0 hM hB hF ) (cwV 1 hts gX8_digest_X8_manyNow rfl rfl rfl (by decide +kernel) ⟨Nat.le_of_ble_eq_true rfl, Nat.le_of_ble_eq_true rfl⟩) (preV hP hK.1 (x_recv (ci := 8) (q := (RX8, TX8, 8)) hK.1.1 hP (by omega) (by omega) rfl hM.self)) rfl rfl hl.1 rfl (lv_room (Nat.le_of_ble_eq_true rfl)) dX8_digest_24 ⟨Nat.le_of_ble_eq_true rfl, Nat.le_of_ble_eq_true rfl⟩) hS (fun H locs hP hS => ?_)
  refine lv_i2l hx hb dX8_digest_27 rfl ?_
  refine x_topl (v' := 0) (by decide +kernel) ?_
  refine lv_ladd hx hb dX8_digest_28 ?_
  refine x_topl (v' := 1740887982091225890) (by decide +kernel) ?_
  refine lv_lstore_n (lv' := [(1, .long (1740887982091225890 : Int64)), (3, .int (14 : Int32)), (0, .ref q)]) hx hb dX8_digest_29 rfl hl (by decide) rfl (fun ls hl => ?_)
  refine lv_iinc (v := (15 : Int32)) (lv' := [(3, .int (15 : Int32)), (1, .long (1740887982091225890 : Int64)), (0, .ref q)]) hx hb dX8_digest_30 hl (k := 1) rfl (by decide) (by decide) rfl (fun ls hl => ?_)
  refine lv_goto (tgt := 11) hx hb dX8_digest_33 (by decide) ?_
  refine lv_iload_n hx hb dX8_digest_11 rfl (lv_at hl 0 rfl) ?_
  refine lv_bipush (v := 14) hx hb dX8_digest_12 (by decide) ?_
  refine lv_icmp_gt (tgt := 36) hx hb dX8_digest_14 (by decide) (fun _ => ?_) (fun h => absurd (by decide) h)
  refine lv_iconst (v := 0) hx hb dX8_digest_36 (by decide) ?_
  refine lv_istore_n (lv' := [(3, .int (0 : Int32)), (1, .long (1740887982091225890 : Int64)), (0, .ref q)]) hx hb dX8_digest_37 rfl hl (by decide) rfl (fun ls hl => ?_)
  have L1 : ∀ (r k : Nat) (H : Heap) (locs : List Loc) (ls : Array Slot), k + r = 16 → lv_has ls 5 [(3, .int (nI k)), (1, .long (dg (1740887982091225890) k)), (0, .ref q)] → va_P D vwCl (rl lo n v1) H → va_S (fun q : Nat => lo ≤ q) s.heap H locs → W p l e (headSpec wsX8_digest ({ frames := 5, cells := 16, slots := 215, locals := 128 })).room s m (([.ref q] : List Value).toArray) below meth c H locs 0 0 (MQ below (va_Ql (fun (r : Int64) (u : Nat → va_E) => r = 3033182947888530339 ∧ (∃ fs, u q = .inr (8, .int 0 :: fs)) ∧ ∀ a, a < lo + n → (a < q ∨ q + 22 ≤ a) → u a = w a) (fun u tE => va_P D vwCl (rl lo (n + 1 + 15) u) tE.heap ∧ tE.heap.size = lo + (n + 1 + 15)) (fun q : Nat => lo ≤ q)) (([.ref q] : List Value).toArray) s 16 215 (fun q : Nat => lo ≤ q)) (F0 m 38 ls []) := by
    intro r
    induction r with
    | zero =>
      intro k H locs ls hk hl hP hS
      have e9 : k = 16 := by omega
      subst k
      rw [show dg (1740887982091225890) 16 = 1849104036134551330 from by decide +kernel] at hl
      refine lv_iload_n hx hb dX8_digest_38 rfl (lv_at hl 0 rfl) ?_
      refine lv_bipush (v := 16) hx hb dX8_digest_39 (by decide) ?_
      refine lv_icmp_ge (tgt := 80) hx hb dX8_digest_41 (by decide) (fun _ => ?_) (fun h => absurd ((br_le (show (16 : Int32) = nI 16 from rfl) (show (nI 16) = nI 16 from rfl) (by omega) (by omega)).mpr (by omega)) h)
      refine lv_iconst (v := 0) hx hb dX8_digest_80 (by decide) ?_
      refine lv_istore_n (lv' := [(3, .int (0 : Int32)), (1, .long (1849104036134551330 : Int64)), (0, .ref q)]) hx hb dX8_digest_81 rfl hl (by decide) rfl (fun ls hl => ?_)
      refine lv_iload_n hx hb dX8_digest_82 rfl (lv_at hl 0 rfl) ?_
      refine lv_aload_n hx hb dX8_digest_83 rfl (lv_at hl 2 rfl) ?_
      refine x_get (ref := RX8) (C := RX8) (T := TX8) (N := 8) (ci := 8) (v := .ref (q + 1)) hx hb hts iX8 hown hK.1.1 hP (by omega) (by omega) hM.self rfl 1 (by decide) (hts (.fieldLink RX8 10 "PoreFieldModel" "field" "LPoreFieldModel$Field;") (by decide +kernel)) (fun _ h9 => h9) rfl dX8_digest_84 ?_
      refine x_get (ref := RX7) (C := RX7) (T := TX7) (N := 14) (ci := 7) (v := .int (0 : Int32)) hx hb hts iX7 hown hK.1.1 hP (by omega) (by omega) hF.self rfl 9 (by decide) (hts (.fieldLink RX8 40 "PoreFieldModel$Field" "wellCount" "I") (by decide +kernel)) (fun _ h9 => h9) rfl dX8_digest_87 ?_
      refine lv_icmp_ge (tgt := 163) hx hb dX8_digest_90 (by decide) (fun _ => ?_) (fun h => absurd (by decide) h)
      refine lv_iconst (v := 0) hx hb dX8_digest_163 (by decide) ?_
      refine lv_istore_n (lv' := [(3, .int (0 : Int32)), (1, .long (1849104036134551330 : Int64)), (0, .ref q)]) hx hb dX8_digest_164 rfl hl (by decide) rfl (fun ls hl => ?_)
      refine lv_iload_n hx hb dX8_digest_165 rfl (lv_at hl 0 rfl) ?_
      refine lv_iconst (v := 3) hx hb dX8_digest_166 (by decide) ?_
      refine lv_icmp_ge (tgt := 221) hx hb dX8_digest_167 (by decide) (fun h => absurd h (by decide)) (fun _ => ?_)
      refine lv_iconst (v := 0) hx hb dX8_digest_170 (by decide) ?_
      refine lv_istore (lv' := [(4, .int (0 : Int32)), (3, .int (0 : Int32)), (1, .long (1849104036134551330 : Int64)), (0, .ref q)]) hx hb dX8_digest_171 hl (by decide) rfl (fun ls hl => ?_)
      refine lv_iload hx hb dX8_digest_173 (lv_at hl 0 rfl) ?_
      refine lv_iconst (v := 3) hx hb dX8_digest_175 (by decide) ?_
      refine lv_icmp_gt (tgt := 202) hx hb dX8_digest_176 (by decide) (fun h => absurd h (by decide)) (fun _ => ?_)
      refine lv_lload_n hx hb dX8_digest_179 rfl (lv_at hl 2 rfl) ?_
      refine lv_ldc2 (own := RX8) (v := 31) hx hb hown (hts (.constantLong RX8 150 (31)) (by decide +kernel)) dX8_digest_180 ?_
      refine lv_lmul hx hb dX8_digest_183 ?_
      refine x_topl (v' := 1981992899042436382) (by decide +kernel) ?_
      refine lv_aload_n hx hb dX8_digest_184 rfl (lv_at hl 3 rfl) ?_
      refine x_get (ref := RX8) (C := RX8) (T := TX8) (N := 8) (ci := 8) (v := .ref (q + 17)) hx hb hts iX8 hown hK.1.1 hP (by omega) (by omega) hM.self rfl 2 (by decide) (hts (.fieldLink RX8 18 "PoreFieldModel" "partners" "[[I") (by decide +kernel)) (fun _ h9 => h9) rfl dX8_digest_185 ?_
      refine lv_iload_n hx hb dX8_digest_188 rfl (lv_at hl 1 rfl) ?_
      obtain ⟨y1, g1, o1⟩ := hM.outer
      refine x_aaldA (b := (q + 18 + 0)) hx hb hK.1.1 hP (by omega) (by omega) 6 g1 rfl (cl_of_nI (i := 0) rfl (by omega)) (o1 0 (by omega)) (vp_in_of_nI (i := 0) rfl (by omega) (by omega)) dX8_digest_189 ?_
      refine lv_iload hx hb dX8_digest_190 (lv_at hl 0 rfl) ?_
      obtain ⟨d2, g2, j2, z2⟩ := hM.row 0 (by omega)
      refine x_iald hx hb hK.1.1 hP (by omega) (by omega) 0 g2 rfl (cl_of_nI (i := 0) rfl (by omega)) (vp_in_of_nI (i := 0) rfl (by omega) (by omega)) dX8_digest_192 ?_
      refine x_top (v' := (100 : Int32)) j2 ?_
      refine lv_i2l hx hb dX8_digest_193 rfl ?_
      refine x_topl (v' := 100) (by decide +kernel) ?_
      refine lv_ladd hx hb dX8_digest_194 ?_
      refine x_topl (v' := 1981992899042436482) (by decide +kernel) ?_
      refine lv_lstore_n (lv' := [(1, .long (1981992899042436482 : Int64)), (4, .int (0 : Int32)), (3, .int (0 : Int32)), (0, .ref q)]) hx hb dX8_digest_195 rfl hl (by decide) rfl (fun ls hl => ?_)
      refine lv_iinc (v := (1 : Int32)) (lv' := [(4, .int (1 : Int32)), (1, .long (1981992899042436482 : Int64)), (3, .int (0 : Int32)), (0, .ref q)]) hx hb dX8_digest_196 hl (k := 1) rfl (by decide) (by decide) rfl (fun ls hl => ?_)
      refine lv_goto (tgt := 173) hx hb dX8_digest_199 (by decide) ?_
      refine lv_iload hx hb dX8_digest_173 (lv_at hl 0 rfl) ?_
      refine lv_iconst (v := 3) hx hb dX8_digest_175 (by decide) ?_
      refine lv_icmp_gt (tgt := 202) hx hb dX8_digest_176 (by decide) (fun h => absurd h (by decide)) (fun _ => ?_)
      refine lv_lload_n hx hb dX8_digest_179 rfl (lv_at hl 1 rfl) ?_
      refine lv_ldc2 (own := RX8) (v := 31) hx hb hown (hts (.constantLong RX8 150 (31)) (by decide +kernel)) dX8_digest_180 ?_
      refine lv_lmul hx hb dX8_digest_183 ?_
      refine x_topl (v' := 6101547649186876094) (by decide +kernel) ?_
      refine lv_aload_n hx hb dX8_digest_184 rfl (lv_at hl 3 rfl) ?_
      refine x_get (ref := RX8) (C := RX8) (T := TX8) (N := 8) (ci := 8) (v := .ref (q + 17)) hx hb hts iX8 hown hK.1.1 hP (by omega) (by omega) hM.self rfl 2 (by decide) (hts (.fieldLink RX8 18 "PoreFieldModel" "partners" "[[I") (by decide +kernel)) (fun _ h9 => h9) rfl dX8_digest_185 ?_
      refine lv_iload_n hx hb dX8_digest_188 rfl (lv_at hl 2 rfl) ?_
      obtain ⟨y3, g3, o3⟩ := hM.outer
      refine x_aaldA (b := (q + 18 + 0)) hx hb hK.1.1 hP (by omega) (by omega) 6 g3 rfl (cl_of_nI (i := 0) rfl (by omega)) (o3 0 (by omega)) (vp_in_of_nI (i := 0) rfl (by omega) (by omega)) dX8_digest_189 ?_
      refine lv_iload hx hb dX8_digest_190 (lv_at hl 0 rfl) ?_
      obtain ⟨d4, g4, j4, z4⟩ := hM.row 0 (by omega)
      refine x_iald hx hb hK.1.1 hP (by omega) (by omega) 0 g4 rfl (cl_of_nI (i := 1) rfl (by omega)) (vp_in_of_nI (i := 1) rfl (by omega) (by omega)) dX8_digest_192 ?_
      refine x_top (v' := (0 : Int32)) (z4 1 (by omega) (by omega)) ?_
      refine lv_i2l hx hb dX8_digest_193 rfl ?_
      refine x_topl (v' := 0) (by decide +kernel) ?_
      refine lv_ladd hx hb dX8_digest_194 ?_
      refine x_topl (v' := 6101547649186876094) (by decide +kernel) ?_
      refine lv_lstore_n (lv' := [(1, .long (6101547649186876094 : Int64)), (4, .int (1 : Int32)), (3, .int (0 : Int32)), (0, .ref q)]) hx hb dX8_digest_195 rfl hl (by decide) rfl (fun ls hl => ?_)
      refine lv_iinc (v := (2 : Int32)) (lv' := [(4, .int (2 : Int32)), (1, .long (6101547649186876094 : Int64)), (3, .int (0 : Int32)), (0, .ref q)]) hx hb dX8_digest_196 hl (k := 1) rfl (by decide) (by decide) rfl (fun ls hl => ?_)
      refine lv_goto (tgt := 173) hx hb dX8_digest_199 (by decide) ?_
      refine lv_iload hx hb dX8_digest_173 (lv_at hl 0 rfl) ?_
      refine lv_iconst (v := 3) hx hb dX8_digest_175 (by decide) ?_
      refine lv_icmp_gt (tgt := 202) hx hb dX8_digest_176 (by decide) (fun h => absurd h (by decide)) (fun _ => ?_)
      refine lv_lload_n hx hb dX8_digest_179 rfl (lv_at hl 1 rfl) ?_
      refine lv_ldc2 (own := RX8) (v := 31) hx hb hown (hts (.constantLong RX8 150 (31)) (by decide +kernel)) dX8_digest_180 ?_
      refine lv_lmul hx hb dX8_digest_183 ?_
      refine x_topl (v' := 4680536387697642754) (by decide +kernel) ?_
      refine lv_aload_n hx hb dX8_digest_184 rfl (lv_at hl 3 rfl) ?_
      refine x_get (ref := RX8) (C := RX8) (T := TX8) (N := 8) (ci := 8) (v := .ref (q + 17)) hx hb hts iX8 hown hK.1.1 hP (by omega) (by omega) hM.self rfl 2 (by decide) (hts (.fieldLink RX8 18 "PoreFieldModel" "partners" "[[I") (by decide +kernel)) (fun _ h9 => h9) rfl dX8_digest_185 ?_
      refine lv_iload_n hx hb dX8_digest_188 rfl (lv_at hl 2 rfl) ?_
      obtain ⟨y5, g5, o5⟩ := hM.outer
      refine x_aaldA (b := (q + 18 + 0)) hx hb hK.1.1 hP (by omega) (by omega) 6 g5 rfl (cl_of_nI (i := 0) rfl (by omega)) (o5 0 (by omega)) (vp_in_of_nI (i := 0) rfl (by omega) (by omega)) dX8_digest_189 ?_
      refine lv_iload hx hb dX8_digest_190 (lv_at hl 0 rfl) ?_
      obtain ⟨d6, g6, j6, z6⟩ := hM.row 0 (by omega)
      refine x_iald hx hb hK.1.1 hP (by omega) (by omega) 0 g6 rfl (cl_of_nI (i := 2) rfl (by omega)) (vp_in_of_nI (i := 2) rfl (by omega) (by omega)) dX8_digest_192 ?_
      refine x_top (v' := (0 : Int32)) (z6 2 (by omega) (by omega)) ?_
      refine lv_i2l hx hb dX8_digest_193 rfl ?_
      refine x_topl (v' := 0) (by decide +kernel) ?_
      refine lv_ladd hx hb dX8_digest_194 ?_
      refine x_topl (v' := 4680536387697642754) (by decide +kernel) ?_
      refine lv_lstore_n (lv' := [(1, .long (4680536387697642754 : Int64)), (4, .int (2 : Int32)), (3, .int (0 : Int32)), (0, .ref q)]) hx hb dX8_digest_195 rfl hl (by decide) rfl (fun ls hl => ?_)
      refine lv_iinc (v := (3 : Int32)) (lv' := [(4, .int (3 : Int32)), (1, .long (4680536387697642754 : Int64)), (3, .int (0 : Int32)), (0, .ref q)]) hx hb dX8_digest_196 hl (k := 1) rfl (by decide) (by decide) rfl (fun ls hl => ?_)
      refine lv_goto (tgt := 173) hx hb dX8_digest_199 (by decide) ?_
      refine lv_iload hx hb dX8_digest_173 (lv_at hl 0 rfl) ?_
      refine lv_iconst (v := 3) hx hb dX8_digest_175 (by decide) ?_
      refine lv_icmp_gt (tgt := 202) hx hb dX8_digest_176 (by decide) (fun h => absurd h (by decide)) (fun _ => ?_)
      refine lv_lload_n hx hb dX8_digest_179 rfl (lv_at hl 1 rfl) ?_
      refine lv_ldc2 (own := RX8) (v := 31) hx hb hown (hts (.constantLong RX8 150 (31)) (by decide +kernel)) dX8_digest_180 ?_
      refine lv_lmul hx hb dX8_digest_183 ?_
      refine x_topl (v' := -2477324571049487554) (by decide +kernel) ?_
      refine lv_aload_n hx hb dX8_digest_184 rfl (lv_at hl 3 rfl) ?_
      refine x_get (ref := RX8) (C := RX8) (T := TX8) (N := 8) (ci := 8) (v := .ref (q + 17)) hx hb hts iX8 hown hK.1.1 hP (by omega) (by omega) hM.self rfl 2 (by decide) (hts (.fieldLink RX8 18 "PoreFieldModel" "partners" "[[I") (by decide +kernel)) (fun _ h9 => h9) rfl dX8_digest_185 ?_
      refine lv_iload_n hx hb dX8_digest_188 rfl (lv_at hl 2 rfl) ?_
      obtain ⟨y7, g7, o7⟩ := hM.outer
      refine x_aaldA (b := (q + 18 + 0)) hx hb hK.1.1 hP (by omega) (by omega) 6 g7 rfl (cl_of_nI (i := 0) rfl (by omega)) (o7 0 (by omega)) (vp_in_of_nI (i := 0) rfl (by omega) (by omega)) dX8_digest_189 ?_
      refine lv_iload hx hb dX8_digest_190 (lv_at hl 0 rfl) ?_
      obtain ⟨d8, g8, j8, z8⟩ := hM.row 0 (by omega)
      refine x_iald hx hb hK.1.1 hP (by omega) (by omega) 0 g8 rfl (cl_of_nI (i := 3) rfl (by omega)) (vp_in_of_nI (i := 3) rfl (by omega) (by omega)) dX8_digest_192 ?_
      refine x_top (v' := (0 : Int32)) (z8 3 (by omega) (by omega)) ?_
      refine lv_i2l hx hb dX8_digest_193 rfl ?_
      refine x_topl (v' := 0) (by decide +kernel) ?_
      refine lv_ladd hx hb dX8_digest_194 ?_
      refine x_topl (v' := -2477324571049487554) (by decide +kernel) ?_
      refine lv_lstore_n (lv' := [(1, .long (-2477324571049487554 : Int64)), (4, .int (3 : Int32)), (3, .int (0 : Int32)), (0, .ref q)]) hx hb dX8_digest_195 rfl hl (by decide) rfl (fun ls hl => ?_)
      refine lv_iinc (v := (4 : Int32)) (lv' := [(4, .int (4 : Int32)), (1, .long (-2477324571049487554 : Int64)), (3, .int (0 : Int32)), (0, .ref q)]) hx hb dX8_digest_196 hl (k := 1) rfl (by decide) (by decide) rfl (fun ls hl => ?_)
      refine lv_goto (tgt := 173) hx hb dX8_digest_199 (by decide) ?_
      refine lv_iload hx hb dX8_digest_173 (lv_at hl 0 rfl) ?_
      refine lv_iconst (v := 3) hx hb dX8_digest_175 (by decide) ?_
      refine lv_icmp_gt (tgt := 202) hx hb dX8_digest_176 (by decide) (fun _ => ?_) (fun h => absurd (by decide) h)
      refine lv_lload_n hx hb dX8_digest_202 rfl (lv_at hl 1 rfl) ?_
      refine lv_ldc2 (own := RX8) (v := 31) hx hb hown (hts (.constantLong RX8 150 (31)) (by decide +kernel)) dX8_digest_203 ?_
      refine lv_lmul hx hb dX8_digest_206 ?_
      refine x_topl (v' := -3010085407695907710) (by decide +kernel) ?_
      refine lv_aload_n hx hb dX8_digest_207 rfl (lv_at hl 3 rfl) ?_
      refine lv_iload_n hx hb dX8_digest_208 rfl (lv_at hl 2 rfl) ?_
      refine x_calli (va_runV (As := [.int (0 : Int32)]) (rest := [.long (-3010085407695907710 : Int64)]) ⟨hx, hb, hml, hown, hts⟩ (c_X8_mayNow l D cy lo n v1 q (by omega) (by omega) 0 hM hB hF 0 (by omega)) (cwV 1 hts gX8_digest_X8_mayNow rfl rfl rfl (by decide +kernel) ⟨Nat.le_of_ble_eq_true rfl, Nat.le_of_ble_eq_true rfl⟩) (preV hP hK.1 (x_recv (ci := 8) (q := (RX8, TX8, 8)) hK.1.1 hP (by omega) (by omega) rfl hM.self)) rfl rfl hl.1 rfl (lv_room (Nat.le_of_ble_eq_true rfl)) dX8_digest_209 ⟨Nat.le_of_ble_eq_true rfl, Nat.le_of_ble_eq_true rfl⟩) hS (fun H locs hP hS => ?_)
      refine lv_i2l hx hb dX8_digest_212 rfl ?_
      refine x_topl (v' := 0) (by decide +kernel) ?_
      refine lv_ladd hx hb dX8_digest_213 ?_
      refine x_topl (v' := -3010085407695907710) (by decide +kernel) ?_
      refine lv_lstore_n (lv' := [(1, .long (-3010085407695907710 : Int64)), (4, .int (4 : Int32)), (3, .int (0 : Int32)), (0, .ref q)]) hx hb dX8_digest_214 rfl hl (by decide) rfl (fun ls hl => ?_)
      refine lv_iinc (v := (1 : Int32)) (lv' := [(3, .int (1 : Int32)), (1, .long (-3010085407695907710 : Int64)), (4, .int (4 : Int32)), (0, .ref q)]) hx hb dX8_digest_215 hl (k := 2) rfl (by decide) (by decide) rfl (fun ls hl => ?_)
      refine lv_goto (tgt := 165) hx hb dX8_digest_218 (by decide) ?_
      refine lv_iload_n hx hb dX8_digest_165 rfl (lv_at hl 0 rfl) ?_
      refine lv_iconst (v := 3) hx hb dX8_digest_166 (by decide) ?_
      refine lv_icmp_ge (tgt := 221) hx hb dX8_digest_167 (by decide) (fun h => absurd h (by decide)) (fun _ => ?_)
      refine lv_iconst (v := 0) hx hb dX8_digest_170 (by decide) ?_
      refine lv_istore (lv' := [(4, .int (0 : Int32)), (3, .int (1 : Int32)), (1, .long (-3010085407695907710 : Int64)), (0, .ref q)]) hx hb dX8_digest_171 hl (by decide) rfl (fun ls hl => ?_)
      refine lv_iload hx hb dX8_digest_173 (lv_at hl 0 rfl) ?_
      refine lv_iconst (v := 3) hx hb dX8_digest_175 (by decide) ?_
      refine lv_icmp_gt (tgt := 202) hx hb dX8_digest_176 (by decide) (fun h => absurd h (by decide)) (fun _ => ?_)
      refine lv_lload_n hx hb dX8_digest_179 rfl (lv_at hl 2 rfl) ?_
      refine lv_ldc2 (own := RX8) (v := 31) hx hb hown (hts (.constantLong RX8 150 (31)) (by decide +kernel)) dX8_digest_180 ?_
      refine lv_lmul hx hb dX8_digest_183 ?_
      refine x_topl (v' := -1078927270025380930) (by decide +kernel) ?_
      refine lv_aload_n hx hb dX8_digest_184 rfl (lv_at hl 3 rfl) ?_
      refine x_get (ref := RX8) (C := RX8) (T := TX8) (N := 8) (ci := 8) (v := .ref (q + 17)) hx hb hts iX8 hown hK.1.1 hP (by omega) (by omega) hM.self rfl 2 (by decide) (hts (.fieldLink RX8 18 "PoreFieldModel" "partners" "[[I") (by decide +kernel)) (fun _ h9 => h9) rfl dX8_digest_185 ?_
      refine lv_iload_n hx hb dX8_digest_188 rfl (lv_at hl 1 rfl) ?_
      obtain ⟨y9, g9, o9⟩ := hM.outer
      refine x_aaldA (b := (q + 18 + 1)) hx hb hK.1.1 hP (by omega) (by omega) 6 g9 rfl (cl_of_nI (i := 1) rfl (by omega)) (o9 1 (by omega)) (vp_in_of_nI (i := 1) rfl (by omega) (by omega)) dX8_digest_189 ?_
      refine lv_iload hx hb dX8_digest_190 (lv_at hl 0 rfl) ?_
      obtain ⟨d10, g10, j10, z10⟩ := hM.row 1 (by omega)
      refine x_iald hx hb hK.1.1 hP (by omega) (by omega) 0 g10 rfl (cl_of_nI (i := 0) rfl (by omega)) (vp_in_of_nI (i := 0) rfl (by omega) (by omega)) dX8_digest_192 ?_
      refine x_top (v' := (0 : Int32)) j10 ?_
      refine lv_i2l hx hb dX8_digest_193 rfl ?_
      refine x_topl (v' := 0) (by decide +kernel) ?_
      refine lv_ladd hx hb dX8_digest_194 ?_
      refine x_topl (v' := -1078927270025380930) (by decide +kernel) ?_
      refine lv_lstore_n (lv' := [(1, .long (-1078927270025380930 : Int64)), (4, .int (0 : Int32)), (3, .int (1 : Int32)), (0, .ref q)]) hx hb dX8_digest_195 rfl hl (by decide) rfl (fun ls hl => ?_)
      refine lv_iinc (v := (1 : Int32)) (lv' := [(4, .int (1 : Int32)), (1, .long (-1078927270025380930 : Int64)), (3, .int (1 : Int32)), (0, .ref q)]) hx hb dX8_digest_196 hl (k := 1) rfl (by decide) (by decide) rfl (fun ls hl => ?_)
      refine lv_goto (tgt := 173) hx hb dX8_digest_199 (by decide) ?_
      refine lv_iload hx hb dX8_digest_173 (lv_at hl 0 rfl) ?_
      refine lv_iconst (v := 3) hx hb dX8_digest_175 (by decide) ?_
      refine lv_icmp_gt (tgt := 202) hx hb dX8_digest_176 (by decide) (fun h => absurd h (by decide)) (fun _ => ?_)
      refine lv_lload_n hx hb dX8_digest_179 rfl (lv_at hl 1 rfl) ?_
      refine lv_ldc2 (own := RX8) (v := 31) hx hb hown (hts (.constantLong RX8 150 (31)) (by decide +kernel)) dX8_digest_180 ?_
      refine lv_lmul hx hb dX8_digest_183 ?_
      refine x_topl (v' := 3446742776632294402) (by decide +kernel) ?_
      refine lv_aload_n hx hb dX8_digest_184 rfl (lv_at hl 3 rfl) ?_
      refine x_get (ref := RX8) (C := RX8) (T := TX8) (N := 8) (ci := 8) (v := .ref (q + 17)) hx hb hts iX8 hown hK.1.1 hP (by omega) (by omega) hM.self rfl 2 (by decide) (hts (.fieldLink RX8 18 "PoreFieldModel" "partners" "[[I") (by decide +kernel)) (fun _ h9 => h9) rfl dX8_digest_185 ?_
      refine lv_iload_n hx hb dX8_digest_188 rfl (lv_at hl 2 rfl) ?_
      obtain ⟨y11, g11, o11⟩ := hM.outer
      refine x_aaldA (b := (q + 18 + 1)) hx hb hK.1.1 hP (by omega) (by omega) 6 g11 rfl (cl_of_nI (i := 1) rfl (by omega)) (o11 1 (by omega)) (vp_in_of_nI (i := 1) rfl (by omega) (by omega)) dX8_digest_189 ?_
      refine lv_iload hx hb dX8_digest_190 (lv_at hl 0 rfl) ?_
      obtain ⟨d12, g12, j12, z12⟩ := hM.row 1 (by omega)
      refine x_iald hx hb hK.1.1 hP (by omega) (by omega) 0 g12 rfl (cl_of_nI (i := 1) rfl (by omega)) (vp_in_of_nI (i := 1) rfl (by omega) (by omega)) dX8_digest_192 ?_
      refine x_top (v' := (0 : Int32)) (z12 1 (by omega) (by omega)) ?_
      refine lv_i2l hx hb dX8_digest_193 rfl ?_
      refine x_topl (v' := 0) (by decide +kernel) ?_
      refine lv_ladd hx hb dX8_digest_194 ?_
      refine x_topl (v' := 3446742776632294402) (by decide +kernel) ?_
      refine lv_lstore_n (lv' := [(1, .long (3446742776632294402 : Int64)), (4, .int (1 : Int32)), (3, .int (1 : Int32)), (0, .ref q)]) hx hb dX8_digest_195 rfl hl (by decide) rfl (fun ls hl => ?_)
      refine lv_iinc (v := (2 : Int32)) (lv' := [(4, .int (2 : Int32)), (1, .long (3446742776632294402 : Int64)), (3, .int (1 : Int32)), (0, .ref q)]) hx hb dX8_digest_196 hl (k := 1) rfl (by decide) (by decide) rfl (fun ls hl => ?_)
      refine lv_goto (tgt := 173) hx hb dX8_digest_199 (by decide) ?_
      refine lv_iload hx hb dX8_digest_173 (lv_at hl 0 rfl) ?_
      refine lv_iconst (v := 3) hx hb dX8_digest_175 (by decide) ?_
      refine lv_icmp_gt (tgt := 202) hx hb dX8_digest_176 (by decide) (fun h => absurd h (by decide)) (fun _ => ?_)
      refine lv_lload_n hx hb dX8_digest_179 rfl (lv_at hl 1 rfl) ?_
      refine lv_ldc2 (own := RX8) (v := 31) hx hb hown (hts (.constantLong RX8 150 (31)) (by decide +kernel)) dX8_digest_180 ?_
      refine lv_lmul hx hb dX8_digest_183 ?_
      refine x_topl (v' := -3831438366656183234) (by decide +kernel) ?_
      refine lv_aload_n hx hb dX8_digest_184 rfl (lv_at hl 3 rfl) ?_
      refine x_get (ref := RX8) (C := RX8) (T := TX8) (N := 8) (ci := 8) (v := .ref (q + 17)) hx hb hts iX8 hown hK.1.1 hP (by omega) (by omega) hM.self rfl 2 (by decide) (hts (.fieldLink RX8 18 "PoreFieldModel" "partners" "[[I") (by decide +kernel)) (fun _ h9 => h9) rfl dX8_digest_185 ?_
      refine lv_iload_n hx hb dX8_digest_188 rfl (lv_at hl 2 rfl) ?_
      obtain ⟨y13, g13, o13⟩ := hM.outer
      refine x_aaldA (b := (q + 18 + 1)) hx hb hK.1.1 hP (by omega) (by omega) 6 g13 rfl (cl_of_nI (i := 1) rfl (by omega)) (o13 1 (by omega)) (vp_in_of_nI (i := 1) rfl (by omega) (by omega)) dX8_digest_189 ?_
      refine lv_iload hx hb dX8_digest_190 (lv_at hl 0 rfl) ?_
      obtain ⟨d14, g14, j14, z14⟩ := hM.row 1 (by omega)
      refine x_iald hx hb hK.1.1 hP (by omega) (by omega) 0 g14 rfl (cl_of_nI (i := 2) rfl (by omega)) (vp_in_of_nI (i := 2) rfl (by omega) (by omega)) dX8_digest_192 ?_
      refine x_top (v' := (0 : Int32)) (z14 2 (by omega) (by omega)) ?_
      refine lv_i2l hx hb dX8_digest_193 rfl ?_
      refine x_topl (v' := 0) (by decide +kernel) ?_
      refine lv_ladd hx hb dX8_digest_194 ?_
      refine x_topl (v' := -3831438366656183234) (by decide +kernel) ?_
      refine lv_lstore_n (lv' := [(1, .long (-3831438366656183234 : Int64)), (4, .int (2 : Int32)), (3, .int (1 : Int32)), (0, .ref q)]) hx hb dX8_digest_195 rfl hl (by decide) rfl (fun ls hl => ?_)
      refine lv_iinc (v := (3 : Int32)) (lv' := [(4, .int (3 : Int32)), (1, .long (-3831438366656183234 : Int64)), (3, .int (1 : Int32)), (0, .ref q)]) hx hb dX8_digest_196 hl (k := 1) rfl (by decide) (by decide) rfl (fun ls hl => ?_)
      refine lv_goto (tgt := 173) hx hb dX8_digest_199 (by decide) ?_
      refine lv_iload hx hb dX8_digest_173 (lv_at hl 0 rfl) ?_
      refine lv_iconst (v := 3) hx hb dX8_digest_175 (by decide) ?_
      refine lv_icmp_gt (tgt := 202) hx hb dX8_digest_176 (by decide) (fun h => absurd h (by decide)) (fun _ => ?_)
      refine lv_lload_n hx hb dX8_digest_179 rfl (lv_at hl 1 rfl) ?_
      refine lv_ldc2 (own := RX8) (v := 31) hx hb hown (hts (.constantLong RX8 150 (31)) (by decide +kernel)) dX8_digest_180 ?_
      refine lv_lmul hx hb dX8_digest_183 ?_
      refine x_topl (v' := -8094124924084370558) (by decide +kernel) ?_
      refine lv_aload_n hx hb dX8_digest_184 rfl (lv_at hl 3 rfl) ?_
      refine x_get (ref := RX8) (C := RX8) (T := TX8) (N := 8) (ci := 8) (v := .ref (q + 17)) hx hb hts iX8 hown hK.1.1 hP (by omega) (by omega) hM.self rfl 2 (by decide) (hts (.fieldLink RX8 18 "PoreFieldModel" "partners" "[[I") (by decide +kernel)) (fun _ h9 => h9) rfl dX8_digest_185 ?_
      refine lv_iload_n hx hb dX8_digest_188 rfl (lv_at hl 2 rfl) ?_
      obtain ⟨y15, g15, o15⟩ := hM.outer
      refine x_aaldA (b := (q + 18 + 1)) hx hb hK.1.1 hP (by omega) (by omega) 6 g15 rfl (cl_of_nI (i := 1) rfl (by omega)) (o15 1 (by omega)) (vp_in_of_nI (i := 1) rfl (by omega) (by omega)) dX8_digest_189 ?_
      refine lv_iload hx hb dX8_digest_190 (lv_at hl 0 rfl) ?_
      obtain ⟨d16, g16, j16, z16⟩ := hM.row 1 (by omega)
      refine x_iald hx hb hK.1.1 hP (by omega) (by omega) 0 g16 rfl (cl_of_nI (i := 3) rfl (by omega)) (vp_in_of_nI (i := 3) rfl (by omega) (by omega)) dX8_digest_192 ?_
      refine x_top (v' := (0 : Int32)) (z16 3 (by omega) (by omega)) ?_
      refine lv_i2l hx hb dX8_digest_193 rfl ?_
      refine x_topl (v' := 0) (by decide +kernel) ?_
      refine lv_ladd hx hb dX8_digest_194 ?_
      refine x_topl (v' := -8094124924084370558) (by decide +kernel) ?_
      refine lv_lstore_n (lv' := [(1, .long (-8094124924084370558 : Int64)), (4, .int (3 : Int32)), (3, .int (1 : Int32)), (0, .ref q)]) hx hb dX8_digest_195 rfl hl (by decide) rfl (fun ls hl => ?_)
      refine lv_iinc (v := (4 : Int32)) (lv' := [(4, .int (4 : Int32)), (1, .long (-8094124924084370558 : Int64)), (3, .int (1 : Int32)), (0, .ref q)]) hx hb dX8_digest_196 hl (k := 1) rfl (by decide) (by decide) rfl (fun ls hl => ?_)
      refine lv_goto (tgt := 173) hx hb dX8_digest_199 (by decide) ?_
      refine lv_iload hx hb dX8_digest_173 (lv_at hl 0 rfl) ?_
      refine lv_iconst (v := 3) hx hb dX8_digest_175 (by decide) ?_
      refine lv_icmp_gt (tgt := 202) hx hb dX8_digest_176 (by decide) (fun _ => ?_) (fun h => absurd (by decide) h)
      refine lv_lload_n hx hb dX8_digest_202 rfl (lv_at hl 1 rfl) ?_
      refine lv_ldc2 (own := RX8) (v := 31) hx hb hown (hts (.constantLong RX8 150 (31)) (by decide +kernel)) dX8_digest_203 ?_
      refine lv_lmul hx hb dX8_digest_206 ?_
      refine x_topl (v' := 7336544385318235326) (by decide +kernel) ?_
      refine lv_aload_n hx hb dX8_digest_207 rfl (lv_at hl 3 rfl) ?_
      refine lv_iload_n hx hb dX8_digest_208 rfl (lv_at hl 2 rfl) ?_
      refine x_calli (va_runV (As := [.int (1 : Int32)]) (rest := [.long (7336544385318235326 : Int64)]) ⟨hx, hb, hml, hown, hts⟩ (c_X8_mayNow l D cy lo n v1 q (by omega) (by omega) 0 hM hB hF 1 (by omega)) (cwV 1 hts gX8_digest_X8_mayNow rfl rfl rfl (by decide +kernel) ⟨Nat.le_of_ble_eq_true rfl, Nat.le_of_ble_eq_true rfl⟩) (preV hP hK.1 (x_recv (ci := 8) (q := (RX8, TX8, 8)) hK.1.1 hP (by omega) (by omega) rfl hM.self)) rfl rfl hl.1 rfl (lv_room (Nat.le_of_ble_eq_true rfl)) dX8_digest_209 ⟨Nat.le_of_ble_eq_true rfl, Nat.le_of_ble_eq_true rfl⟩) hS (fun H locs hP hS => ?_)
      refine lv_i2l hx hb dX8_digest_212 rfl ?_
      refine x_topl (v' := 0) (by decide +kernel) ?_
      refine lv_ladd hx hb dX8_digest_213 ?_
      refine x_topl (v' := 7336544385318235326) (by decide +kernel) ?_
      refine lv_lstore_n (lv' := [(1, .long (7336544385318235326 : Int64)), (4, .int (4 : Int32)), (3, .int (1 : Int32)), (0, .ref q)]) hx hb dX8_digest_214 rfl hl (by decide) rfl (fun ls hl => ?_)
      refine lv_iinc (v := (2 : Int32)) (lv' := [(3, .int (2 : Int32)), (1, .long (7336544385318235326 : Int64)), (4, .int (4 : Int32)), (0, .ref q)]) hx hb dX8_digest_215 hl (k := 2) rfl (by decide) (by decide) rfl (fun ls hl => ?_)
      refine lv_goto (tgt := 165) hx hb dX8_digest_218 (by decide) ?_
      refine lv_iload_n hx hb dX8_digest_165 rfl (lv_at hl 0 rfl) ?_
      refine lv_iconst (v := 3) hx hb dX8_digest_166 (by decide) ?_
      refine lv_icmp_ge (tgt := 221) hx hb dX8_digest_167 (by decide) (fun h => absurd h (by decide)) (fun _ => ?_)
      refine lv_iconst (v := 0) hx hb dX8_digest_170 (by decide) ?_
      refine lv_istore (lv' := [(4, .int (0 : Int32)), (3, .int (2 : Int32)), (1, .long (7336544385318235326 : Int64)), (0, .ref q)]) hx hb dX8_digest_171 hl (by decide) rfl (fun ls hl => ?_)
      refine lv_iload hx hb dX8_digest_173 (lv_at hl 0 rfl) ?_
      refine lv_iconst (v := 3) hx hb dX8_digest_175 (by decide) ?_
      refine lv_icmp_gt (tgt := 202) hx hb dX8_digest_176 (by decide) (fun h => absurd h (by decide)) (fun _ => ?_)
      refine lv_lload_n hx hb dX8_digest_179 rfl (lv_at hl 2 rfl) ?_
      refine lv_ldc2 (own := RX8) (v := 31) hx hb hown (hts (.constantLong RX8 150 (31)) (by decide +kernel)) dX8_digest_180 ?_
      refine lv_lmul hx hb dX8_digest_183 ?_
      refine x_topl (v' := 6071947060350675714) (by decide +kernel) ?_
      refine lv_aload_n hx hb dX8_digest_184 rfl (lv_at hl 3 rfl) ?_
      refine x_get (ref := RX8) (C := RX8) (T := TX8) (N := 8) (ci := 8) (v := .ref (q + 17)) hx hb hts iX8 hown hK.1.1 hP (by omega) (by omega) hM.self rfl 2 (by decide) (hts (.fieldLink RX8 18 "PoreFieldModel" "partners" "[[I") (by decide +kernel)) (fun _ h9 => h9) rfl dX8_digest_185 ?_
      refine lv_iload_n hx hb dX8_digest_188 rfl (lv_at hl 1 rfl) ?_
      obtain ⟨y17, g17, o17⟩ := hM.outer
      refine x_aaldA (b := (q + 18 + 2)) hx hb hK.1.1 hP (by omega) (by omega) 6 g17 rfl (cl_of_nI (i := 2) rfl (by omega)) (o17 2 (by omega)) (vp_in_of_nI (i := 2) rfl (by omega) (by omega)) dX8_digest_189 ?_
      refine lv_iload hx hb dX8_digest_190 (lv_at hl 0 rfl) ?_
      obtain ⟨d18, g18, j18, z18⟩ := hM.row 2 (by omega)
      refine x_iald hx hb hK.1.1 hP (by omega) (by omega) 0 g18 rfl (cl_of_nI (i := 0) rfl (by omega)) (vp_in_of_nI (i := 0) rfl (by omega) (by omega)) dX8_digest_192 ?_
      refine x_top (v' := (0 : Int32)) j18 ?_
      refine lv_i2l hx hb dX8_digest_193 rfl ?_
      refine x_topl (v' := 0) (by decide +kernel) ?_
      refine lv_ladd hx hb dX8_digest_194 ?_
      refine x_topl (v' := 6071947060350675714) (by decide +kernel) ?_
      refine lv_lstore_n (lv' := [(1, .long (6071947060350675714 : Int64)), (4, .int (0 : Int32)), (3, .int (2 : Int32)), (0, .ref q)]) hx hb dX8_digest_195 rfl hl (by decide) rfl (fun ls hl => ?_)
      refine lv_iinc (v := (1 : Int32)) (lv' := [(4, .int (1 : Int32)), (1, .long (6071947060350675714 : Int64)), (3, .int (2 : Int32)), (0, .ref q)]) hx hb dX8_digest_196 hl (k := 1) rfl (by decide) (by decide) rfl (fun ls hl => ?_)
      refine lv_goto (tgt := 173) hx hb dX8_digest_199 (by decide) ?_
      refine lv_iload hx hb dX8_digest_173 (lv_at hl 0 rfl) ?_
      refine lv_iconst (v := 3) hx hb dX8_digest_175 (by decide) ?_
      refine lv_icmp_gt (tgt := 202) hx hb dX8_digest_176 (by decide) (fun h => absurd h (by decide)) (fun _ => ?_)
      refine lv_lload_n hx hb dX8_digest_179 rfl (lv_at hl 1 rfl) ?_
      refine lv_ldc2 (own := RX8) (v := 31) hx hb hown (hts (.constantLong RX8 150 (31)) (by decide +kernel)) dX8_digest_180 ?_
      refine lv_lmul hx hb dX8_digest_183 ?_
      refine x_topl (v' := 3762918133775430974) (by decide +kernel) ?_
      refine lv_aload_n hx hb dX8_digest_184 rfl (lv_at hl 3 rfl) ?_
      refine x_get (ref := RX8) (C := RX8) (T := TX8) (N := 8) (ci := 8) (v := .ref (q + 17)) hx hb hts iX8 hown hK.1.1 hP (by omega) (by omega) hM.self rfl 2 (by decide) (hts (.fieldLink RX8 18 "PoreFieldModel" "partners" "[[I") (by decide +kernel)) (fun _ h9 => h9) rfl dX8_digest_185 ?_
      refine lv_iload_n hx hb dX8_digest_188 rfl (lv_at hl 2 rfl) ?_
      obtain ⟨y19, g19, o19⟩ := hM.outer
      refine x_aaldA (b := (q + 18 + 2)) hx hb hK.1.1 hP (by omega) (by omega) 6 g19 rfl (cl_of_nI (i := 2) rfl (by omega)) (o19 2 (by omega)) (vp_in_of_nI (i := 2) rfl (by omega) (by omega)) dX8_digest_189 ?_
      refine lv_iload hx hb dX8_digest_190 (lv_at hl 0 rfl) ?_
      obtain ⟨d20, g20, j20, z20⟩ := hM.row 2 (by omega)
      refine x_iald hx hb hK.1.1 hP (by omega) (by omega) 0 g20 rfl (cl_of_nI (i := 1) rfl (by omega)) (vp_in_of_nI (i := 1) rfl (by omega) (by omega)) dX8_digest_192 ?_
      refine x_top (v' := (0 : Int32)) (z20 1 (by omega) (by omega)) ?_
      refine lv_i2l hx hb dX8_digest_193 rfl ?_
      refine x_topl (v' := 0) (by decide +kernel) ?_
      refine lv_ladd hx hb dX8_digest_194 ?_
      refine x_topl (v' := 3762918133775430974) (by decide +kernel) ?_
      refine lv_lstore_n (lv' := [(1, .long (3762918133775430974 : Int64)), (4, .int (1 : Int32)), (3, .int (2 : Int32)), (0, .ref q)]) hx hb dX8_digest_195 rfl hl (by decide) rfl (fun ls hl => ?_)
      refine lv_iinc (v := (2 : Int32)) (lv' := [(4, .int (2 : Int32)), (1, .long (3762918133775430974 : Int64)), (3, .int (2 : Int32)), (0, .ref q)]) hx hb dX8_digest_196 hl (k := 1) rfl (by decide) (by decide) rfl (fun ls hl => ?_)
      refine lv_goto (tgt := 173) hx hb dX8_digest_199 (by decide) ?_
      refine lv_iload hx hb dX8_digest_173 (lv_at hl 0 rfl) ?_
      refine lv_iconst (v := 3) hx hb dX8_digest_175 (by decide) ?_
      refine lv_icmp_gt (tgt := 202) hx hb dX8_digest_176 (by decide) (fun h => absurd h (by decide)) (fun _ => ?_)
      refine lv_lload_n hx hb dX8_digest_179 rfl (lv_at hl 1 rfl) ?_
      refine lv_ldc2 (own := RX8) (v := 31) hx hb hown (hts (.constantLong RX8 150 (31)) (by decide +kernel)) dX8_digest_180 ?_
      refine lv_lmul hx hb dX8_digest_183 ?_
      refine x_topl (v' := 5969997704781050498) (by decide +kernel) ?_
      refine lv_aload_n hx hb dX8_digest_184 rfl (lv_at hl 3 rfl) ?_
      refine x_get (ref := RX8) (C := RX8) (T := TX8) (N := 8) (ci := 8) (v := .ref (q + 17)) hx hb hts iX8 hown hK.1.1 hP (by omega) (by omega) hM.self rfl 2 (by decide) (hts (.fieldLink RX8 18 "PoreFieldModel" "partners" "[[I") (by decide +kernel)) (fun _ h9 => h9) rfl dX8_digest_185 ?_
      refine lv_iload_n hx hb dX8_digest_188 rfl (lv_at hl 2 rfl) ?_
      obtain ⟨y21, g21, o21⟩ := hM.outer
      refine x_aaldA (b := (q + 18 + 2)) hx hb hK.1.1 hP (by omega) (by omega) 6 g21 rfl (cl_of_nI (i := 2) rfl (by omega)) (o21 2 (by omega)) (vp_in_of_nI (i := 2) rfl (by omega) (by omega)) dX8_digest_189 ?_
      refine lv_iload hx hb dX8_digest_190 (lv_at hl 0 rfl) ?_
      obtain ⟨d22, g22, j22, z22⟩ := hM.row 2 (by omega)
      refine x_iald hx hb hK.1.1 hP (by omega) (by omega) 0 g22 rfl (cl_of_nI (i := 2) rfl (by omega)) (vp_in_of_nI (i := 2) rfl (by omega) (by omega)) dX8_digest_192 ?_
      refine x_top (v' := (0 : Int32)) (z22 2 (by omega) (by omega)) ?_
      refine lv_i2l hx hb dX8_digest_193 rfl ?_
      refine x_topl (v' := 0) (by decide +kernel) ?_
      refine lv_ladd hx hb dX8_digest_194 ?_
      refine x_topl (v' := 5969997704781050498) (by decide +kernel) ?_
      refine lv_lstore_n (lv' := [(1, .long (5969997704781050498 : Int64)), (4, .int (2 : Int32)), (3, .int (2 : Int32)), (0, .ref q)]) hx hb dX8_digest_195 rfl hl (by decide) rfl (fun ls hl => ?_)
      refine lv_iinc (v := (3 : Int32)) (lv' := [(4, .int (3 : Int32)), (1, .long (5969997704781050498 : Int64)), (3, .int (2 : Int32)), (0, .ref q)]) hx hb dX8_digest_196 hl (k := 1) rfl (by decide) (by decide) rfl (fun ls hl => ?_)
      refine lv_goto (tgt := 173) hx hb dX8_digest_199 (by decide) ?_
      refine lv_iload hx hb dX8_digest_173 (lv_at hl 0 rfl) ?_
      refine lv_iconst (v := 3) hx hb dX8_digest_175 (by decide) ?_
      refine lv_icmp_gt (tgt := 202) hx hb dX8_digest_176 (by decide) (fun h => absurd h (by decide)) (fun _ => ?_)
      refine lv_lload_n hx hb dX8_digest_179 rfl (lv_at hl 1 rfl) ?_
      refine lv_ldc2 (own := RX8) (v := 31) hx hb hown (hts (.constantLong RX8 150 (31)) (by decide +kernel)) dX8_digest_180 ?_
      refine lv_lmul hx hb dX8_digest_183 ?_
      refine x_topl (v' := 602488111117049278) (by decide +kernel) ?_
      refine lv_aload_n hx hb dX8_digest_184 rfl (lv_at hl 3 rfl) ?_
      refine x_get (ref := RX8) (C := RX8) (T := TX8) (N := 8) (ci := 8) (v := .ref (q + 17)) hx hb hts iX8 hown hK.1.1 hP (by omega) (by omega) hM.self rfl 2 (by decide) (hts (.fieldLink RX8 18 "PoreFieldModel" "partners" "[[I") (by decide +kernel)) (fun _ h9 => h9) rfl dX8_digest_185 ?_
      refine lv_iload_n hx hb dX8_digest_188 rfl (lv_at hl 2 rfl) ?_
      obtain ⟨y23, g23, o23⟩ := hM.outer
      refine x_aaldA (b := (q + 18 + 2)) hx hb hK.1.1 hP (by omega) (by omega) 6 g23 rfl (cl_of_nI (i := 2) rfl (by omega)) (o23 2 (by omega)) (vp_in_of_nI (i := 2) rfl (by omega) (by omega)) dX8_digest_189 ?_
      refine lv_iload hx hb dX8_digest_190 (lv_at hl 0 rfl) ?_
      obtain ⟨d24, g24, j24, z24⟩ := hM.row 2 (by omega)
      refine x_iald hx hb hK.1.1 hP (by omega) (by omega) 0 g24 rfl (cl_of_nI (i := 3) rfl (by omega)) (vp_in_of_nI (i := 3) rfl (by omega) (by omega)) dX8_digest_192 ?_
      refine x_top (v' := (0 : Int32)) (z24 3 (by omega) (by omega)) ?_
      refine lv_i2l hx hb dX8_digest_193 rfl ?_
      refine x_topl (v' := 0) (by decide +kernel) ?_
      refine lv_ladd hx hb dX8_digest_194 ?_
      refine x_topl (v' := 602488111117049278) (by decide +kernel) ?_
      refine lv_lstore_n (lv' := [(1, .long (602488111117049278 : Int64)), (4, .int (3 : Int32)), (3, .int (2 : Int32)), (0, .ref q)]) hx hb dX8_digest_195 rfl hl (by decide) rfl (fun ls hl => ?_)
      refine lv_iinc (v := (4 : Int32)) (lv' := [(4, .int (4 : Int32)), (1, .long (602488111117049278 : Int64)), (3, .int (2 : Int32)), (0, .ref q)]) hx hb dX8_digest_196 hl (k := 1) rfl (by decide) (by decide) rfl (fun ls hl => ?_)
      refine lv_goto (tgt := 173) hx hb dX8_digest_199 (by decide) ?_
      refine lv_iload hx hb dX8_digest_173 (lv_at hl 0 rfl) ?_
      refine lv_iconst (v := 3) hx hb dX8_digest_175 (by decide) ?_
      refine lv_icmp_gt (tgt := 202) hx hb dX8_digest_176 (by decide) (fun _ => ?_) (fun h => absurd (by decide) h)
      refine lv_lload_n hx hb dX8_digest_202 rfl (lv_at hl 1 rfl) ?_
      refine lv_ldc2 (own := RX8) (v := 31) hx hb hown (hts (.constantLong RX8 150 (31)) (by decide +kernel)) dX8_digest_203 ?_
      refine lv_lmul hx hb dX8_digest_206 ?_
      refine x_topl (v' := 230387370918976002) (by decide +kernel) ?_
      refine lv_aload_n hx hb dX8_digest_207 rfl (lv_at hl 3 rfl) ?_
      refine lv_iload_n hx hb dX8_digest_208 rfl (lv_at hl 2 rfl) ?_
      refine x_calli (va_runV (As := [.int (2 : Int32)]) (rest := [.long (230387370918976002 : Int64)]) ⟨hx, hb, hml, hown, hts⟩ (c_X8_mayNow l D cy lo n v1 q (by omega) (by omega) 0 hM hB hF 2 (by omega)) (cwV 1 hts gX8_digest_X8_mayNow rfl rfl rfl (by decide +kernel) ⟨Nat.le_of_ble_eq_true rfl, Nat.le_of_ble_eq_true rfl⟩) (preV hP hK.1 (x_recv (ci := 8) (q := (RX8, TX8, 8)) hK.1.1 hP (by omega) (by omega) rfl hM.self)) rfl rfl hl.1 rfl (lv_room (Nat.le_of_ble_eq_true rfl)) dX8_digest_209 ⟨Nat.le_of_ble_eq_true rfl, Nat.le_of_ble_eq_true rfl⟩) hS (fun H locs hP hS => ?_)
      refine lv_i2l hx hb dX8_digest_212 rfl ?_
      refine x_topl (v' := 0) (by decide +kernel) ?_
      refine lv_ladd hx hb dX8_digest_213 ?_
      refine x_topl (v' := 230387370918976002) (by decide +kernel) ?_
      refine lv_lstore_n (lv' := [(1, .long (230387370918976002 : Int64)), (4, .int (4 : Int32)), (3, .int (2 : Int32)), (0, .ref q)]) hx hb dX8_digest_214 rfl hl (by decide) rfl (fun ls hl => ?_)
      refine lv_iinc (v := (3 : Int32)) (lv' := [(3, .int (3 : Int32)), (1, .long (230387370918976002 : Int64)), (4, .int (4 : Int32)), (0, .ref q)]) hx hb dX8_digest_215 hl (k := 2) rfl (by decide) (by decide) rfl (fun ls hl => ?_)
      refine lv_goto (tgt := 165) hx hb dX8_digest_218 (by decide) ?_
      refine lv_iload_n hx hb dX8_digest_165 rfl (lv_at hl 0 rfl) ?_
      refine lv_iconst (v := 3) hx hb dX8_digest_166 (by decide) ?_
      refine lv_icmp_ge (tgt := 221) hx hb dX8_digest_167 (by decide) (fun _ => ?_) (fun h => absurd (by decide) h)
      refine lv_iconst (v := 0) hx hb dX8_digest_221 (by decide) ?_
      refine lv_istore_n (lv' := [(3, .int (0 : Int32)), (1, .long (230387370918976002 : Int64)), (4, .int (4 : Int32)), (0, .ref q)]) hx hb dX8_digest_222 rfl hl (by decide) rfl (fun ls hl => ?_)
      refine lv_iload_n hx hb dX8_digest_223 rfl (lv_at hl 0 rfl) ?_
      refine lv_iconst (v := 4) hx hb dX8_digest_224 (by decide) ?_
      refine lv_icmp_gt (tgt := 248) hx hb dX8_digest_225 (by decide) (fun h => absurd h (by decide)) (fun _ => ?_)
      refine lv_lload_n hx hb dX8_digest_228 rfl (lv_at hl 1 rfl) ?_
      refine lv_ldc2 (own := RX8) (v := 31) hx hb hown (hts (.constantLong RX8 150 (31)) (by decide +kernel)) dX8_digest_229 ?_
      refine lv_lmul hx hb dX8_digest_232 ?_
      refine x_topl (v' := 7142008498488256062) (by decide +kernel) ?_
      refine lv_aload_n hx hb dX8_digest_233 rfl (lv_at hl 3 rfl) ?_
      refine x_get (ref := RX8) (C := RX8) (T := TX8) (N := 8) (ci := 8) (v := .ref (q + 21)) hx hb hts iX8 hown hK.1.1 hP (by omega) (by omega) hM.self rfl 3 (by decide) (hts (.fieldLink RX8 22 "PoreFieldModel" "lastBook" "[I") (by decide +kernel)) (fun _ h9 => h9) rfl dX8_digest_234 ?_
      refine lv_iload_n hx hb dX8_digest_237 rfl (lv_at hl 0 rfl) ?_
      obtain ⟨d25, g25, l25_0, l25_1, l25_2, l25_3, l25_4⟩ := id hB
      refine x_iald hx hb hK.1.1 hP (by omega) (by omega) 0 g25 rfl (cl_of_nI (i := 0) rfl (by omega)) (vp_in_of_nI (i := 0) rfl (by omega) (by omega)) dX8_digest_238 ?_
      refine x_top (v' := (0 : Int32)) l25_0 ?_
      refine lv_i2l hx hb dX8_digest_239 rfl ?_
      refine x_topl (v' := 0) (by decide +kernel) ?_
      refine lv_ladd hx hb dX8_digest_240 ?_
      refine x_topl (v' := 7142008498488256062) (by decide +kernel) ?_
      refine lv_lstore_n (lv' := [(1, .long (7142008498488256062 : Int64)), (3, .int (0 : Int32)), (4, .int (4 : Int32)), (0, .ref q)]) hx hb dX8_digest_241 rfl hl (by decide) rfl (fun ls hl => ?_)
      refine lv_iinc (v := (1 : Int32)) (lv' := [(3, .int (1 : Int32)), (1, .long (7142008498488256062 : Int64)), (4, .int (4 : Int32)), (0, .ref q)]) hx hb dX8_digest_242 hl (k := 1) rfl (by decide) (by decide) rfl (fun ls hl => ?_)
      refine lv_goto (tgt := 223) hx hb dX8_digest_245 (by decide) ?_
      refine lv_iload_n hx hb dX8_digest_223 rfl (lv_at hl 0 rfl) ?_
      refine lv_iconst (v := 4) hx hb dX8_digest_224 (by decide) ?_
      refine lv_icmp_gt (tgt := 248) hx hb dX8_digest_225 (by decide) (fun h => absurd h (by decide)) (fun _ => ?_)
      refine lv_lload_n hx hb dX8_digest_228 rfl (lv_at hl 1 rfl) ?_
      refine lv_ldc2 (own := RX8) (v := 31) hx hb hown (hts (.constantLong RX8 150 (31)) (by decide +kernel)) dX8_digest_229 ?_
      refine lv_lmul hx hb dX8_digest_232 ?_
      refine x_topl (v' := 41334568621318530) (by decide +kernel) ?_
      refine lv_aload_n hx hb dX8_digest_233 rfl (lv_at hl 3 rfl) ?_
      refine x_get (ref := RX8) (C := RX8) (T := TX8) (N := 8) (ci := 8) (v := .ref (q + 21)) hx hb hts iX8 hown hK.1.1 hP (by omega) (by omega) hM.self rfl 3 (by decide) (hts (.fieldLink RX8 22 "PoreFieldModel" "lastBook" "[I") (by decide +kernel)) (fun _ h9 => h9) rfl dX8_digest_234 ?_
      refine lv_iload_n hx hb dX8_digest_237 rfl (lv_at hl 0 rfl) ?_
      obtain ⟨d26, g26, l26_0, l26_1, l26_2, l26_3, l26_4⟩ := id hB
      refine x_iald hx hb hK.1.1 hP (by omega) (by omega) 0 g26 rfl (cl_of_nI (i := 1) rfl (by omega)) (vp_in_of_nI (i := 1) rfl (by omega) (by omega)) dX8_digest_238 ?_
      refine x_top (v' := (0 : Int32)) l26_1 ?_
      refine lv_i2l hx hb dX8_digest_239 rfl ?_
      refine x_topl (v' := 0) (by decide +kernel) ?_
      refine lv_ladd hx hb dX8_digest_240 ?_
      refine x_topl (v' := 41334568621318530) (by decide +kernel) ?_
      refine lv_lstore_n (lv' := [(1, .long (41334568621318530 : Int64)), (3, .int (1 : Int32)), (4, .int (4 : Int32)), (0, .ref q)]) hx hb dX8_digest_241 rfl hl (by decide) rfl (fun ls hl => ?_)
      refine lv_iinc (v := (2 : Int32)) (lv' := [(3, .int (2 : Int32)), (1, .long (41334568621318530 : Int64)), (4, .int (4 : Int32)), (0, .ref q)]) hx hb dX8_digest_242 hl (k := 1) rfl (by decide) (by decide) rfl (fun ls hl => ?_)
      refine lv_goto (tgt := 223) hx hb dX8_digest_245 (by decide) ?_
      refine lv_iload_n hx hb dX8_digest_223 rfl (lv_at hl 0 rfl) ?_
      refine lv_iconst (v := 4) hx hb dX8_digest_224 (by decide) ?_
      refine lv_icmp_gt (tgt := 248) hx hb dX8_digest_225 (by decide) (fun h => absurd h (by decide)) (fun _ => ?_)
      refine lv_lload_n hx hb dX8_digest_228 rfl (lv_at hl 1 rfl) ?_
      refine lv_ldc2 (own := RX8) (v := 31) hx hb hown (hts (.constantLong RX8 150 (31)) (by decide +kernel)) dX8_digest_229 ?_
      refine lv_lmul hx hb dX8_digest_232 ?_
      refine x_topl (v' := 1281371627260874430) (by decide +kernel) ?_
      refine lv_aload_n hx hb dX8_digest_233 rfl (lv_at hl 3 rfl) ?_
      refine x_get (ref := RX8) (C := RX8) (T := TX8) (N := 8) (ci := 8) (v := .ref (q + 21)) hx hb hts iX8 hown hK.1.1 hP (by omega) (by omega) hM.self rfl 3 (by decide) (hts (.fieldLink RX8 22 "PoreFieldModel" "lastBook" "[I") (by decide +kernel)) (fun _ h9 => h9) rfl dX8_digest_234 ?_
      refine lv_iload_n hx hb dX8_digest_237 rfl (lv_at hl 0 rfl) ?_
      obtain ⟨d27, g27, l27_0, l27_1, l27_2, l27_3, l27_4⟩ := id hB
      refine x_iald hx hb hK.1.1 hP (by omega) (by omega) 0 g27 rfl (cl_of_nI (i := 2) rfl (by omega)) (vp_in_of_nI (i := 2) rfl (by omega) (by omega)) dX8_digest_238 ?_
      refine x_top (v' := (0 : Int32)) l27_2 ?_
      refine lv_i2l hx hb dX8_digest_239 rfl ?_
      refine x_topl (v' := 0) (by decide +kernel) ?_
      refine lv_ladd hx hb dX8_digest_240 ?_
      refine x_topl (v' := 1281371627260874430) (by decide +kernel) ?_
      refine lv_lstore_n (lv' := [(1, .long (1281371627260874430 : Int64)), (3, .int (2 : Int32)), (4, .int (4 : Int32)), (0, .ref q)]) hx hb dX8_digest_241 rfl hl (by decide) rfl (fun ls hl => ?_)
      refine lv_iinc (v := (3 : Int32)) (lv' := [(3, .int (3 : Int32)), (1, .long (1281371627260874430 : Int64)), (4, .int (4 : Int32)), (0, .ref q)]) hx hb dX8_digest_242 hl (k := 1) rfl (by decide) (by decide) rfl (fun ls hl => ?_)
      refine lv_goto (tgt := 223) hx hb dX8_digest_245 (by decide) ?_
      refine lv_iload_n hx hb dX8_digest_223 rfl (lv_at hl 0 rfl) ?_
      refine lv_iconst (v := 4) hx hb dX8_digest_224 (by decide) ?_
      refine lv_icmp_gt (tgt := 248) hx hb dX8_digest_225 (by decide) (fun h => absurd h (by decide)) (fun _ => ?_)
      refine lv_lload_n hx hb dX8_digest_228 rfl (lv_at hl 1 rfl) ?_
      refine lv_ldc2 (own := RX8) (v := 31) hx hb hown (hts (.constantLong RX8 150 (31)) (by decide +kernel)) dX8_digest_229 ?_
      refine lv_lmul hx hb dX8_digest_232 ?_
      refine x_topl (v' := 2829032297668004098) (by decide +kernel) ?_
      refine lv_aload_n hx hb dX8_digest_233 rfl (lv_at hl 3 rfl) ?_
      refine x_get (ref := RX8) (C := RX8) (T := TX8) (N := 8) (ci := 8) (v := .ref (q + 21)) hx hb hts iX8 hown hK.1.1 hP (by omega) (by omega) hM.self rfl 3 (by decide) (hts (.fieldLink RX8 22 "PoreFieldModel" "lastBook" "[I") (by decide +kernel)) (fun _ h9 => h9) rfl dX8_digest_234 ?_
      refine lv_iload_n hx hb dX8_digest_237 rfl (lv_at hl 0 rfl) ?_
      obtain ⟨d28, g28, l28_0, l28_1, l28_2, l28_3, l28_4⟩ := id hB
      refine x_iald hx hb hK.1.1 hP (by omega) (by omega) 0 g28 rfl (cl_of_nI (i := 3) rfl (by omega)) (vp_in_of_nI (i := 3) rfl (by omega) (by omega)) dX8_digest_238 ?_
      refine x_top (v' := (0 : Int32)) l28_3 ?_
      refine lv_i2l hx hb dX8_digest_239 rfl ?_
      refine x_topl (v' := 0) (by decide +kernel) ?_
      refine lv_ladd hx hb dX8_digest_240 ?_
      refine x_topl (v' := 2829032297668004098) (by decide +kernel) ?_
      refine lv_lstore_n (lv' := [(1, .long (2829032297668004098 : Int64)), (3, .int (3 : Int32)), (4, .int (4 : Int32)), (0, .ref q)]) hx hb dX8_digest_241 rfl hl (by decide) rfl (fun ls hl => ?_)
      refine lv_iinc (v := (4 : Int32)) (lv' := [(3, .int (4 : Int32)), (1, .long (2829032297668004098 : Int64)), (4, .int (4 : Int32)), (0, .ref q)]) hx hb dX8_digest_242 hl (k := 1) rfl (by decide) (by decide) rfl (fun ls hl => ?_)
      refine lv_goto (tgt := 223) hx hb dX8_digest_245 (by decide) ?_
      refine lv_iload_n hx hb dX8_digest_223 rfl (lv_at hl 0 rfl) ?_
      refine lv_iconst (v := 4) hx hb dX8_digest_224 (by decide) ?_
      refine lv_icmp_gt (tgt := 248) hx hb dX8_digest_225 (by decide) (fun h => absurd h (by decide)) (fun _ => ?_)
      refine lv_lload_n hx hb dX8_digest_228 rfl (lv_at hl 1 rfl) ?_
      refine lv_ldc2 (own := RX8) (v := 31) hx hb hown (hts (.constantLong RX8 150 (31)) (by decide +kernel)) dX8_digest_229 ?_
      refine lv_lmul hx hb dX8_digest_232 ?_
      refine x_topl (v' := -4533719140839631042) (by decide +kernel) ?_
      refine lv_aload_n hx hb dX8_digest_233 rfl (lv_at hl 3 rfl) ?_
      refine x_get (ref := RX8) (C := RX8) (T := TX8) (N := 8) (ci := 8) (v := .ref (q + 21)) hx hb hts iX8 hown hK.1.1 hP (by omega) (by omega) hM.self rfl 3 (by decide) (hts (.fieldLink RX8 22 "PoreFieldModel" "lastBook" "[I") (by decide +kernel)) (fun _ h9 => h9) rfl dX8_digest_234 ?_
      refine lv_iload_n hx hb dX8_digest_237 rfl (lv_at hl 0 rfl) ?_
      obtain ⟨d29, g29, l29_0, l29_1, l29_2, l29_3, l29_4⟩ := id hB
      refine x_iald hx hb hK.1.1 hP (by omega) (by omega) 0 g29 rfl (cl_of_nI (i := 4) rfl (by omega)) (vp_in_of_nI (i := 4) rfl (by omega) (by omega)) dX8_digest_238 ?_
      refine x_top (v' := (-1 : Int32)) l29_4 ?_
      refine lv_i2l hx hb dX8_digest_239 rfl ?_
      refine x_topl (v' := -1) (by decide +kernel) ?_
      refine lv_ladd hx hb dX8_digest_240 ?_
      refine x_topl (v' := -4533719140839631043) (by decide +kernel) ?_
      refine lv_lstore_n (lv' := [(1, .long (-4533719140839631043 : Int64)), (3, .int (4 : Int32)), (4, .int (4 : Int32)), (0, .ref q)]) hx hb dX8_digest_241 rfl hl (by decide) rfl (fun ls hl => ?_)
      refine lv_iinc (v := (5 : Int32)) (lv' := [(3, .int (5 : Int32)), (1, .long (-4533719140839631043 : Int64)), (4, .int (4 : Int32)), (0, .ref q)]) hx hb dX8_digest_242 hl (k := 1) rfl (by decide) (by decide) rfl (fun ls hl => ?_)
      refine lv_goto (tgt := 223) hx hb dX8_digest_245 (by decide) ?_
      refine lv_iload_n hx hb dX8_digest_223 rfl (lv_at hl 0 rfl) ?_
      refine lv_iconst (v := 4) hx hb dX8_digest_224 (by decide) ?_
      refine lv_icmp_gt (tgt := 248) hx hb dX8_digest_225 (by decide) (fun _ => ?_) (fun h => absurd (by decide) h)
      refine lv_lload_n hx hb dX8_digest_248 rfl (lv_at hl 1 rfl) ?_
      refine lv_ldc2 (own := RX8) (v := 31) hx hb hown (hts (.constantLong RX8 150 (31)) (by decide +kernel)) dX8_digest_249 ?_
      refine lv_lmul hx hb dX8_digest_252 ?_
      refine x_topl (v' := 7028659223647850595) (by decide +kernel) ?_
      refine lv_aload_n hx hb dX8_digest_253 rfl (lv_at hl 3 rfl) ?_
      refine x_get (ref := RX8) (C := RX8) (T := TX8) (N := 8) (ci := 8) (v := .ref (q + 1)) hx hb hts iX8 hown hK.1.1 hP (by omega) (by omega) hM.self rfl 1 (by decide) (hts (.fieldLink RX8 10 "PoreFieldModel" "field" "LPoreFieldModel$Field;") (by decide +kernel)) (fun _ h9 => h9) rfl dX8_digest_254 ?_
      refine x_szn (by omega) (by omega) hP (fun hzH => ?_)
      refine x_callrN (va_runV (As := []) (rest := [.long (7028659223647850595 : Int64)]) ⟨hx, hb, hml, hown, hts⟩ (c_X7_copy l D cy lo n v1 (q + 1) (by omega) (by omega) 0 300 hF (lo + n) (by omega)) (cwV 0 hts gX8_digest_X7_copy rfl rfl rfl (by decide +kernel) ⟨Nat.le_of_ble_eq_true rfl, Nat.le_of_ble_eq_true rfl⟩) (preVN hzH hP hK (x_recv (ci := 7) (q := (RX7, TX7, 14)) hK.1.1 hP (by omega) (by omega) rfl hF.self)) rfl rfl hl.1 rfl (lv_room (Nat.le_of_ble_eq_true rfl)) dX8_digest_257 ⟨by show _ ≤ 16; omega, by show _ ≤ 215; omega⟩) hS (fun u2 H locs hX hP hzH hS => ?_)
      obtain ⟨hF, hG, hlo9⟩ := hX
      have hM := hM.ext (w' := u2) (fun a ha => hlo9 a (by omega))
      have hB := hB.ext (w' := u2) (hlo9 _ (by omega))
      have hof : ∀ a, a < lo + n → (a < q ∨ q + 22 ≤ a) → u2 a = w a := fun a h8 h9 => (hlo9 a (by omega)).trans (hof a h8 h9)
      refine lv_iconst (v := 3) hx hb dX8_digest_260 (by decide) ?_
      refine x_callx (va_runV (As := [.int (3 : Int32)]) (rest := [.long (7028659223647850595 : Int64)]) ⟨hx, hb, hml, hown, hts⟩ (c_X7_run l D cy lo (n + 1 + 15) u2 (lo + n) (by omega) (by omega) 0 300 hG 3 (by omega)) (cwV 1 hts gX8_digest_X7_run rfl rfl rfl (by decide +kernel) ⟨Nat.le_of_ble_eq_true rfl, Nat.le_of_ble_eq_true rfl⟩) (preV hP hK.1 (x_recv (ci := 7) (q := (RX7, TX7, 14)) hK.1.1 hP (by omega) (by omega) rfl hG.self)) rfl rfl hl.1 rfl (lv_room (Nat.le_of_ble_eq_true rfl)) dX8_digest_261 ⟨by show _ ≤ 16; omega, by show _ ≤ 215; omega⟩) hS (fun r9 u3 H locs hX hP hS => ?_)
      obtain ⟨rfl, ⟨nw3, hG⟩, hf9⟩ := hX
      have hF := hF.ext (w' := u3) (fun a g1 g2 => hf9 a (by omega))
      have hM := hM.ext (w' := u3) (fun a ha => hf9 a (by omega))
      have hB := hB.ext (w' := u3) (hf9 _ (by omega))
      have hof : ∀ a, a < lo + n → (a < q ∨ q + 22 ≤ a) → u3 a = w a := fun a h8 h9 => (hf9 a (by omega)).trans (hof a h8 h9)
      refine lv_i2l hx hb dX8_digest_264 rfl ?_
      refine x_topl (v' := 0) (by decide +kernel) ?_
      refine lv_ladd hx hb dX8_digest_265 ?_
      refine x_topl (v' := 7028659223647850595) (by decide +kernel) ?_
      refine lv_lstore_n (lv' := [(1, .long (7028659223647850595 : Int64)), (3, .int (5 : Int32)), (4, .int (4 : Int32)), (0, .ref q)]) hx hb dX8_digest_266 rfl hl (by decide) rfl (fun ls hl => ?_)
      refine lv_lload_n hx hb dX8_digest_267 rfl (lv_at hl 0 rfl) ?_
      refine lv_ldc2 (own := RX8) (v := 31) hx hb hown (hts (.constantLong RX8 150 (31)) (by decide +kernel)) dX8_digest_268 ?_
      refine lv_lmul hx hb dX8_digest_271 ?_
      refine x_topl (v' := -3472492951431250947) (by decide +kernel) ?_
      refine lv_aload_n hx hb dX8_digest_272 rfl (lv_at hl 3 rfl) ?_
      refine lv_iconst (v := 5) hx hb dX8_digest_273 (by decide) ?_
      refine lv_iconst (v := 1) hx hb dX8_digest_274 (by decide) ?_
      refine lv_iconst (v := 2) hx hb dX8_digest_275 (by decide) ?_
      refine x_calli (va_runV (As := [.int (5 : Int32), .int (1 : Int32), .int (2 : Int32)]) (rest := [.long (-3472492951431250947 : Int64)]) ⟨hx, hb, hml, hown, hts⟩ (c_X8_keptNow l D cy lo (n + 1 + 15) u3 q (by omega) (by omega) 0 hM hB hF 5 (by omega) (1 : Int32) (2 : Int32)) (cwV 3 hts gX8_digest_X8_keptNow rfl rfl rfl (by decide +kernel) ⟨Nat.le_of_ble_eq_true rfl, Nat.le_of_ble_eq_true rfl⟩) (preV hP hK.1 (x_recv (ci := 8) (q := (RX8, TX8, 8)) hK.1.1 hP (by omega) (by omega) rfl hM.self)) rfl rfl hl.1 rfl (lv_room (Nat.le_of_ble_eq_true rfl)) dX8_digest_276 ⟨Nat.le_of_ble_eq_true rfl, Nat.le_of_ble_eq_true rfl⟩) hS (fun H locs hP hS => ?_)
      refine lv_i2l hx hb dX8_digest_279 rfl ?_
      refine x_topl (v' := 0) (by decide +kernel) ?_
      refine lv_ladd hx hb dX8_digest_280 ?_
      refine x_topl (v' := -3472492951431250947) (by decide +kernel) ?_
      refine lv_ldc2 (own := RX8) (v := 31) hx hb hown (hts (.constantLong RX8 150 (31)) (by decide +kernel)) dX8_digest_281 ?_
      refine lv_lmul hx hb dX8_digest_284 ?_
      refine x_topl (v' := 3033182947888530339) (by decide +kernel) ?_
      refine lv_aload_n hx hb dX8_digest_285 rfl (lv_at hl 3 rfl) ?_
      refine lv_iconst (v := 5) hx hb dX8_digest_286 (by decide) ?_
      refine lv_iconst (v := 0) hx hb dX8_digest_287 (by decide) ?_
      refine lv_iconst (v := 2) hx hb dX8_digest_288 (by decide) ?_
      refine x_calli (va_runV (As := [.int (5 : Int32), .int (0 : Int32), .int (2 : Int32)]) (rest := [.long (3033182947888530339 : Int64)]) ⟨hx, hb, hml, hown, hts⟩ (c_X8_keptNow l D cy lo (n + 1 + 15) u3 q (by omega) (by omega) 0 hM hB hF 5 (by omega) (0 : Int32) (2 : Int32)) (cwV 3 hts gX8_digest_X8_keptNow rfl rfl rfl (by decide +kernel) ⟨Nat.le_of_ble_eq_true rfl, Nat.le_of_ble_eq_true rfl⟩) (preV hP hK.1 (x_recv (ci := 8) (q := (RX8, TX8, 8)) hK.1.1 hP (by omega) (by omega) rfl hM.self)) rfl rfl hl.1 rfl (lv_room (Nat.le_of_ble_eq_true rfl)) dX8_digest_289 ⟨Nat.le_of_ble_eq_true rfl, Nat.le_of_ble_eq_true rfl⟩) hS (fun H locs hP hS => ?_)
      refine lv_i2l hx hb dX8_digest_292 rfl ?_
      refine x_topl (v' := 0) (by decide +kernel) ?_
      refine lv_ladd hx hb dX8_digest_293 ?_
      refine x_topl (v' := 3033182947888530339) (by decide +kernel) ?_
      refine x_szn (by omega) (by omega) hP (fun hzH => ?_)
      exact W.lret (v := (3033182947888530339 : Int64)) hx hb hr (fun tE ht hW => ⟨⟨(3033182947888530339 : Int64), u3, rfl, ⟨rfl, ⟨_, hM.self⟩, hof⟩, x_at ht hP, by rw [ht]; exact hzH⟩, hS.F ht⟩) hS.2.2 dX8_digest_294
    | succ r ih =>
      intro k H locs ls hk hl hP hS
      refine lv_iload_n hx hb dX8_digest_38 rfl (lv_at hl 0 rfl) ?_
      refine lv_bipush (v := 16) hx hb dX8_digest_39 (by decide) ?_
      refine lv_icmp_ge (tgt := 80) hx hb dX8_digest_41 (by decide) (fun h => absurd h (fun h9 => absurd ((br_le (show (16 : Int32) = nI 16 from rfl) (show (nI k) = nI k from rfl) (by omega) (by omega)).mp h9) (by omega))) (fun _ => ?_)
      refine lv_iconst (v := 0) hx hb dX8_digest_44 (by decide) ?_
      refine lv_istore (lv' := [(4, .int (0 : Int32)), (3, .int (nI k)), (1, .long (dg (1740887982091225890) k)), (0, .ref q)]) hx hb dX8_digest_45 hl (by decide) rfl (fun ls hl => ?_)
      refine lv_iload hx hb dX8_digest_47 (lv_at hl 0 rfl) ?_
      refine lv_iconst (v := 4) hx hb dX8_digest_49 (by decide) ?_
      refine lv_icmp_gt (tgt := 74) hx hb dX8_digest_50 (by decide) (fun h => absurd h (by decide)) (fun _ => ?_)
      refine lv_lload_n hx hb dX8_digest_53 rfl (lv_at hl 2 rfl) ?_
      refine lv_ldc2 (own := RX8) (v := 31) hx hb hown (hts (.constantLong RX8 150 (31)) (by decide +kernel)) dX8_digest_54 ?_
      refine lv_lmul hx hb dX8_digest_57 ?_
      refine lv_aload_n hx hb dX8_digest_58 rfl (lv_at hl 3 rfl) ?_
      refine lv_iload_n hx hb dX8_digest_59 rfl (lv_at hl 1 rfl) ?_
      refine lv_iload hx hb dX8_digest_60 (lv_at hl 0 rfl) ?_
      refine x_calli (va_runV (As := [.int (nI k), .int (0 : Int32)]) (rest := [.long ((dg (1740887982091225890) k) * (31 : Int64))]) ⟨hx, hb, hml, hown, hts⟩ (c_X8_cellNow_0 l D cy lo n v1 q (by omega) (by omega) 0 hM hB hF k (by omega)) (cwV 2 hts gX8_digest_X8_cellNow rfl rfl rfl (by decide +kernel) ⟨Nat.le_of_ble_eq_true rfl, Nat.le_of_ble_eq_true rfl⟩) (preV hP hK.1 (x_recv (ci := 8) (q := (RX8, TX8, 8)) hK.1.1 hP (by omega) (by omega) rfl hM.self)) rfl rfl hl.1 rfl (lv_room (Nat.le_of_ble_eq_true rfl)) dX8_digest_62 ⟨Nat.le_of_ble_eq_true rfl, Nat.le_of_ble_eq_true rfl⟩) hS (fun H locs hP hS => ?_)
      refine lv_i2l hx hb dX8_digest_65 rfl ?_
      refine x_topl (v' := 40) (by decide +kernel) ?_
      refine lv_ladd hx hb dX8_digest_66 ?_
      refine lv_lstore_n (lv' := [(1, .long (((dg (1740887982091225890) k) * (31 : Int64)) + (40 : Int64))), (4, .int (0 : Int32)), (3, .int (nI k)), (0, .ref q)]) hx hb dX8_digest_67 rfl hl (by decide) rfl (fun ls hl => ?_)
      refine lv_iinc (v := (1 : Int32)) (lv' := [(4, .int (1 : Int32)), (1, .long (((dg (1740887982091225890) k) * (31 : Int64)) + (40 : Int64))), (3, .int (nI k)), (0, .ref q)]) hx hb dX8_digest_68 hl (k := 1) rfl (by decide) (by decide) rfl (fun ls hl => ?_)
      refine lv_goto (tgt := 47) hx hb dX8_digest_71 (by decide) ?_
      refine lv_iload hx hb dX8_digest_47 (lv_at hl 0 rfl) ?_
      refine lv_iconst (v := 4) hx hb dX8_digest_49 (by decide) ?_
      refine lv_icmp_gt (tgt := 74) hx hb dX8_digest_50 (by decide) (fun h => absurd h (by decide)) (fun _ => ?_)
      refine lv_lload_n hx hb dX8_digest_53 rfl (lv_at hl 1 rfl) ?_
      refine lv_ldc2 (own := RX8) (v := 31) hx hb hown (hts (.constantLong RX8 150 (31)) (by decide +kernel)) dX8_digest_54 ?_
      refine lv_lmul hx hb dX8_digest_57 ?_
      refine lv_aload_n hx hb dX8_digest_58 rfl (lv_at hl 3 rfl) ?_
      refine lv_iload_n hx hb dX8_digest_59 rfl (lv_at hl 2 rfl) ?_
      refine lv_iload hx hb dX8_digest_60 (lv_at hl 0 rfl) ?_
      refine x_calli (va_runV (As := [.int (nI k), .int (1 : Int32)]) (rest := [.long ((((dg (1740887982091225890) k) * (31 : Int64)) + (40 : Int64)) * (31 : Int64))]) ⟨hx, hb, hml, hown, hts⟩ (c_X8_cellNow_1 l D cy lo n v1 q (by omega) (by omega) 0 hM hB hF k (by omega)) (cwV 2 hts gX8_digest_X8_cellNow rfl rfl rfl (by decide +kernel) ⟨Nat.le_of_ble_eq_true rfl, Nat.le_of_ble_eq_true rfl⟩) (preV hP hK.1 (x_recv (ci := 8) (q := (RX8, TX8, 8)) hK.1.1 hP (by omega) (by omega) rfl hM.self)) rfl rfl hl.1 rfl (lv_room (Nat.le_of_ble_eq_true rfl)) dX8_digest_62 ⟨Nat.le_of_ble_eq_true rfl, Nat.le_of_ble_eq_true rfl⟩) hS (fun H locs hP hS => ?_)
      refine lv_i2l hx hb dX8_digest_65 rfl ?_
      refine x_topl (v' := 0) (by decide +kernel) ?_
      refine lv_ladd hx hb dX8_digest_66 ?_
      refine lv_lstore_n (lv' := [(1, .long (((((dg (1740887982091225890) k) * (31 : Int64)) + (40 : Int64)) * (31 : Int64)) + (0 : Int64))), (4, .int (1 : Int32)), (3, .int (nI k)), (0, .ref q)]) hx hb dX8_digest_67 rfl hl (by decide) rfl (fun ls hl => ?_)
      refine lv_iinc (v := (2 : Int32)) (lv' := [(4, .int (2 : Int32)), (1, .long (((((dg (1740887982091225890) k) * (31 : Int64)) + (40 : Int64)) * (31 : Int64)) + (0 : Int64))), (3, .int (nI k)), (0, .ref q)]) hx hb dX8_digest_68 hl (k := 1) rfl (by decide) (by decide) rfl (fun ls hl => ?_)
      refine lv_goto (tgt := 47) hx hb dX8_digest_71 (by decide) ?_
      refine lv_iload hx hb dX8_digest_47 (lv_at hl 0 rfl) ?_
      refine lv_iconst (v := 4) hx hb dX8_digest_49 (by decide) ?_
      refine lv_icmp_gt (tgt := 74) hx hb dX8_digest_50 (by decide) (fun h => absurd h (by decide)) (fun _ => ?_)
      refine lv_lload_n hx hb dX8_digest_53 rfl (lv_at hl 1 rfl) ?_
      refine lv_ldc2 (own := RX8) (v := 31) hx hb hown (hts (.constantLong RX8 150 (31)) (by decide +kernel)) dX8_digest_54 ?_
      refine lv_lmul hx hb dX8_digest_57 ?_
      refine lv_aload_n hx hb dX8_digest_58 rfl (lv_at hl 3 rfl) ?_
      refine lv_iload_n hx hb dX8_digest_59 rfl (lv_at hl 2 rfl) ?_
      refine lv_iload hx hb dX8_digest_60 (lv_at hl 0 rfl) ?_
      refine x_calli (va_runV (As := [.int (nI k), .int (2 : Int32)]) (rest := [.long ((((((dg (1740887982091225890) k) * (31 : Int64)) + (40 : Int64)) * (31 : Int64)) + (0 : Int64)) * (31 : Int64))]) ⟨hx, hb, hml, hown, hts⟩ (c_X8_cellNow_2 l D cy lo n v1 q (by omega) (by omega) 0 hM hB hF k (by omega)) (cwV 2 hts gX8_digest_X8_cellNow rfl rfl rfl (by decide +kernel) ⟨Nat.le_of_ble_eq_true rfl, Nat.le_of_ble_eq_true rfl⟩) (preV hP hK.1 (x_recv (ci := 8) (q := (RX8, TX8, 8)) hK.1.1 hP (by omega) (by omega) rfl hM.self)) rfl rfl hl.1 rfl (lv_room (Nat.le_of_ble_eq_true rfl)) dX8_digest_62 ⟨Nat.le_of_ble_eq_true rfl, Nat.le_of_ble_eq_true rfl⟩) hS (fun H locs hP hS => ?_)
      refine lv_i2l hx hb dX8_digest_65 rfl ?_
      refine x_topl (v' := 0) (by decide +kernel) ?_
      refine lv_ladd hx hb dX8_digest_66 ?_
      refine lv_lstore_n (lv' := [(1, .long (((((((dg (1740887982091225890) k) * (31 : Int64)) + (40 : Int64)) * (31 : Int64)) + (0 : Int64)) * (31 : Int64)) + (0 : Int64))), (4, .int (2 : Int32)), (3, .int (nI k)), (0, .ref q)]) hx hb dX8_digest_67 rfl hl (by decide) rfl (fun ls hl => ?_)
      refine lv_iinc (v := (3 : Int32)) (lv' := [(4, .int (3 : Int32)), (1, .long (((((((dg (1740887982091225890) k) * (31 : Int64)) + (40 : Int64)) * (31 : Int64)) + (0 : Int64)) * (31 : Int64)) + (0 : Int64))), (3, .int (nI k)), (0, .ref q)]) hx hb dX8_digest_68 hl (k := 1) rfl (by decide) (by decide) rfl (fun ls hl => ?_)
      refine lv_goto (tgt := 47) hx hb dX8_digest_71 (by decide) ?_
      refine lv_iload hx hb dX8_digest_47 (lv_at hl 0 rfl) ?_
      refine lv_iconst (v := 4) hx hb dX8_digest_49 (by decide) ?_
      refine lv_icmp_gt (tgt := 74) hx hb dX8_digest_50 (by decide) (fun h => absurd h (by decide)) (fun _ => ?_)
      refine lv_lload_n hx hb dX8_digest_53 rfl (lv_at hl 1 rfl) ?_
      refine lv_ldc2 (own := RX8) (v := 31) hx hb hown (hts (.constantLong RX8 150 (31)) (by decide +kernel)) dX8_digest_54 ?_
      refine lv_lmul hx hb dX8_digest_57 ?_
      refine lv_aload_n hx hb dX8_digest_58 rfl (lv_at hl 3 rfl) ?_
      refine lv_iload_n hx hb dX8_digest_59 rfl (lv_at hl 2 rfl) ?_
      refine lv_iload hx hb dX8_digest_60 (lv_at hl 0 rfl) ?_
      refine x_calli (va_runV (As := [.int (nI k), .int (3 : Int32)]) (rest := [.long ((((((((dg (1740887982091225890) k) * (31 : Int64)) + (40 : Int64)) * (31 : Int64)) + (0 : Int64)) * (31 : Int64)) + (0 : Int64)) * (31 : Int64))]) ⟨hx, hb, hml, hown, hts⟩ (c_X8_cellNow_3 l D cy lo n v1 q (by omega) (by omega) 0 hM hB hF k (by omega)) (cwV 2 hts gX8_digest_X8_cellNow rfl rfl rfl (by decide +kernel) ⟨Nat.le_of_ble_eq_true rfl, Nat.le_of_ble_eq_true rfl⟩) (preV hP hK.1 (x_recv (ci := 8) (q := (RX8, TX8, 8)) hK.1.1 hP (by omega) (by omega) rfl hM.self)) rfl rfl hl.1 rfl (lv_room (Nat.le_of_ble_eq_true rfl)) dX8_digest_62 ⟨Nat.le_of_ble_eq_true rfl, Nat.le_of_ble_eq_true rfl⟩) hS (fun H locs hP hS => ?_)
      refine lv_i2l hx hb dX8_digest_65 rfl ?_
      refine x_topl (v' := 0) (by decide +kernel) ?_
      refine lv_ladd hx hb dX8_digest_66 ?_
      refine lv_lstore_n (lv' := [(1, .long (((((((((dg (1740887982091225890) k) * (31 : Int64)) + (40 : Int64)) * (31 : Int64)) + (0 : Int64)) * (31 : Int64)) + (0 : Int64)) * (31 : Int64)) + (0 : Int64))), (4, .int (3 : Int32)), (3, .int (nI k)), (0, .ref q)]) hx hb dX8_digest_67 rfl hl (by decide) rfl (fun ls hl => ?_)
      refine lv_iinc (v := (4 : Int32)) (lv' := [(4, .int (4 : Int32)), (1, .long (((((((((dg (1740887982091225890) k) * (31 : Int64)) + (40 : Int64)) * (31 : Int64)) + (0 : Int64)) * (31 : Int64)) + (0 : Int64)) * (31 : Int64)) + (0 : Int64))), (3, .int (nI k)), (0, .ref q)]) hx hb dX8_digest_68 hl (k := 1) rfl (by decide) (by decide) rfl (fun ls hl => ?_)
      refine lv_goto (tgt := 47) hx hb dX8_digest_71 (by decide) ?_
      refine lv_iload hx hb dX8_digest_47 (lv_at hl 0 rfl) ?_
      refine lv_iconst (v := 4) hx hb dX8_digest_49 (by decide) ?_
      refine lv_icmp_gt (tgt := 74) hx hb dX8_digest_50 (by decide) (fun h => absurd h (by decide)) (fun _ => ?_)
      refine lv_lload_n hx hb dX8_digest_53 rfl (lv_at hl 1 rfl) ?_
      refine lv_ldc2 (own := RX8) (v := 31) hx hb hown (hts (.constantLong RX8 150 (31)) (by decide +kernel)) dX8_digest_54 ?_
      refine lv_lmul hx hb dX8_digest_57 ?_
      refine lv_aload_n hx hb dX8_digest_58 rfl (lv_at hl 3 rfl) ?_
      refine lv_iload_n hx hb dX8_digest_59 rfl (lv_at hl 2 rfl) ?_
      refine lv_iload hx hb dX8_digest_60 (lv_at hl 0 rfl) ?_
      refine x_calli (va_runV (As := [.int (nI k), .int (4 : Int32)]) (rest := [.long ((((((((((dg (1740887982091225890) k) * (31 : Int64)) + (40 : Int64)) * (31 : Int64)) + (0 : Int64)) * (31 : Int64)) + (0 : Int64)) * (31 : Int64)) + (0 : Int64)) * (31 : Int64))]) ⟨hx, hb, hml, hown, hts⟩ (c_X8_cellNow_4 l D cy lo n v1 q (by omega) (by omega) 0 hM hB hF k (by omega)) (cwV 2 hts gX8_digest_X8_cellNow rfl rfl rfl (by decide +kernel) ⟨Nat.le_of_ble_eq_true rfl, Nat.le_of_ble_eq_true rfl⟩) (preV hP hK.1 (x_recv (ci := 8) (q := (RX8, TX8, 8)) hK.1.1 hP (by omega) (by omega) rfl hM.self)) rfl rfl hl.1 rfl (lv_room (Nat.le_of_ble_eq_true rfl)) dX8_digest_62 ⟨Nat.le_of_ble_eq_true rfl, Nat.le_of_ble_eq_true rfl⟩) hS (fun H locs hP hS => ?_)
      refine lv_i2l hx hb dX8_digest_65 rfl ?_
      refine x_topl (v' := 0) (by decide +kernel) ?_
      refine lv_ladd hx hb dX8_digest_66 ?_
      refine lv_lstore_n (lv' := [(1, .long (((((((((((dg (1740887982091225890) k) * (31 : Int64)) + (40 : Int64)) * (31 : Int64)) + (0 : Int64)) * (31 : Int64)) + (0 : Int64)) * (31 : Int64)) + (0 : Int64)) * (31 : Int64)) + (0 : Int64))), (4, .int (4 : Int32)), (3, .int (nI k)), (0, .ref q)]) hx hb dX8_digest_67 rfl hl (by decide) rfl (fun ls hl => ?_)
      refine lv_iinc (v := (5 : Int32)) (lv' := [(4, .int (5 : Int32)), (1, .long (((((((((((dg (1740887982091225890) k) * (31 : Int64)) + (40 : Int64)) * (31 : Int64)) + (0 : Int64)) * (31 : Int64)) + (0 : Int64)) * (31 : Int64)) + (0 : Int64)) * (31 : Int64)) + (0 : Int64))), (3, .int (nI k)), (0, .ref q)]) hx hb dX8_digest_68 hl (k := 1) rfl (by decide) (by decide) rfl (fun ls hl => ?_)
      refine lv_goto (tgt := 47) hx hb dX8_digest_71 (by decide) ?_
      refine lv_iload hx hb dX8_digest_47 (lv_at hl 0 rfl) ?_
      refine lv_iconst (v := 4) hx hb dX8_digest_49 (by decide) ?_
      refine lv_icmp_gt (tgt := 74) hx hb dX8_digest_50 (by decide) (fun _ => ?_) (fun h => absurd (by decide) h)
      refine lv_iinc (v := (nI (k + 1))) (lv' := [(3, .int (nI (k + 1))), (4, .int (5 : Int32)), (1, .long (((((((((((dg (1740887982091225890) k) * (31 : Int64)) + (40 : Int64)) * (31 : Int64)) + (0 : Int64)) * (31 : Int64)) + (0 : Int64)) * (31 : Int64)) + (0 : Int64)) * (31 : Int64)) + (0 : Int64))), (0, .ref q)]) hx hb dX8_digest_74 hl (k := 2) rfl (nI_1 _) (by decide) rfl (fun ls hl => ?_)
      refine lv_goto (tgt := 38) hx hb dX8_digest_77 (by decide) ?_
      exact ih (k + 1) _ _ _ (by omega) (lv_sub hl [0, 2, 3] rfl) hP hS
  exact L1 16 0 _ _ _ (by omega) (lv_sub hl [0, 1, 2] rfl) hP hS
