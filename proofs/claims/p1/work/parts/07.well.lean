set_option maxRecDepth 100000 in
set_option maxHeartbeats 4000000 in
/-- Cell.take -/
theorem c_X1_take (l : Launch) (D : va_G) (cy : Nat → ClassId) (lo n : Nat) (w0 : Nat → va_E) (g : Nat) (M : Mem) (hg1 : lo ≤ g) (hg2 : g + 49 ≤ lo + n) (g2 : Nat) (N : Mem) (hn1 : lo ≤ g2) (hn2 : g2 + 49 ≤ lo + n) (hdis : g2 + 49 ≤ g ∨ g + 49 ≤ g2) (i : Nat) (hi : i < 16) (hsh : (N (5 + 2 * i) 2 = 0 ∨ N (5 + 2 * i) 2 = 1) ∧ (N (5 + 2 * i) 3 = 0 ∨ N (5 + 2 * i) 3 = 1)) : Met l yX1_take wsX1_take ({ frames := 1, cells := 0, slots := 0, locals := 80 }) (PcW D cy lo n (gw cy (gw cy w0 g2 N) g M) [.ref (g + (5 + 2 * i)), .ref (g2 + (5 + 2 * i))]) (QvW D lo n (gw cy (gw cy w0 g2 N) g (m_takeC i N M))) 0 0 (fun q : Nat => lo ≤ q) := by
  refine Met.ofW (cc := cX1_take) (maxL := 2) (ret := none) (by decide) rfl ?_
  intro p e s m args below meth c s₁ B hml hv
  obtain ⟨rfl, hP, hK, hS⟩ := x_entry hv
  have hx := B.exec
  have hb := B.bytes
  have hr := B.returns
  have hts := atoms_spec (ws := wsX1_take) B.pre
  have hown : s.vm.findClass RX1 = some m.cls := findClass_of_methodNamed B.named
  have hlocks := B.notSynchronized
  have iX1 : ∀ w ∈ u_ws RX1 TX1 4, w ∈ wsX1_take := by decide +kernel
  have hl := lv_entry ([.ref (g + (5 + 2 * i)), .ref (g2 + (5 + 2 * i))]) (n := 2) (Nat.le_of_ble_eq_true rfl)
  rw [lg_entry_eq]
  generalize (lg_sl ([.ref (g + (5 + 2 * i)), .ref (g2 + (5 + 2 * i))]) ++ List.replicate (2 - (lg_sl ([.ref (g + (5 + 2 * i)), .ref (g2 + (5 + 2 * i))])).length) Slot.unset).toArray = ls at hl ⊢
  have hl : lv_has ls 2 [(0, .ref (g + (5 + 2 * i))), (1, .ref (g2 + (5 + 2 * i)))] := hl
  refine lv_aload_n hx hb dX1_take_0 rfl (lv_at hl 0 rfl) ?_
  refine lv_aload_n hx hb dX1_take_1 rfl (lv_at hl 1 rfl) ?_
  refine x_get (ref := RX1) (C := RX1) (T := TX1) (N := 4) (ci := 1) (v := .int (N (5 + 2 * i) 0)) hx hb hts iX1 hown hK.1 hP (by omega) (by omega) (((gw_out (by omega)).trans (gw_cell (by omega)))) rfl 0 (by decide) (hts (.fieldLink RX1 9 "PoreField$Cell" "room" "I") (by decide +kernel)) (fun _ h9 => h9) rfl dX1_take_2 ?_
  refine x_put (ty := .int) (ref := RX1) (C := RX1) (T := TX1) (N := 4) (ci := 1) (v := .int (N (5 + 2 * i) 0)) hx hb hts iX1 tyX1 tyX1_ok nmX1 hown hK.1 hP hS (by omega) (by omega) (gw_cell (by omega)) rfl 0 (by decide) (hts (.fieldLink RX1 9 "PoreField$Cell" "room" "I") (by decide +kernel)) (fun _ h9 => h9) rfl (by decide +kernel) rfl rfl (Nat.le_of_ble_eq_true rfl) dX1_take_5 (fun H locs hP hS => ?_)
  have hP := gp (k := 5 + 2 * i) (j := 0) (v := (N (5 + 2 * i) 0)) hP (by omega) (by rw [gEr_cell (by omega)]; rfl)
  refine lv_aload_n hx hb dX1_take_8 rfl (lv_at hl 1 rfl) ?_
  refine x_get (ref := RX1) (C := RX1) (T := TX1) (N := 4) (ci := 1) (v := .ref (g2 + (6 + 2 * i))) hx hb hts iX1 hown hK.1 hP (by omega) (by omega) (((gw_out (by omega)).trans (gw_cell (by omega)))) rfl 1 (by decide) (hts (.fieldLink RX1 15 "PoreField$Cell" "fluids" "[I") (by decide +kernel)) (fun _ h9 => h9) rfl dX1_take_9 ?_
  refine lv_iconst (v := 0) hx hb dX1_take_12 (by decide) ?_
  refine lv_aload_n hx hb dX1_take_13 rfl (lv_at hl 0 rfl) ?_
  refine x_get (ref := RX1) (C := RX1) (T := TX1) (N := 4) (ci := 1) (v := .ref (g + (6 + 2 * i))) hx hb hts iX1 hown hK.1 hP (by omega) (by omega) (gw_cell (by omega)) rfl 1 (by decide) (hts (.fieldLink RX1 15 "PoreField$Cell" "fluids" "[I") (by decide +kernel)) (fun _ h9 => h9) rfl dX1_take_14 ?_
  refine lv_iconst (v := 0) hx hb dX1_take_17 (by decide) ?_
  refine lv_iconst (v := 3) hx hb dX1_take_18 (by decide) ?_
  refine x_copyi (own := RX1) (k' := 3) hx hb (hml.trans hl.1.symm) hown (hts (.methodLink RX1 19 arraycopyName) (by decide +kernel)) (hts (.native arraycopyName) (by decide +kernel)) (hts (.static arraycopyName) (by decide +kernel)) (hts (.initialized "java/lang/System") (by decide +kernel)) hK.1 hP hS 0 (by omega) (by omega) (by omega) (by omega) (((gw_out (by omega)).trans (gw_row (gRow_fl (by omega))))) (gw_row (gRow_fl (by omega))) rfl (by decide) rfl (by omega) (by omega) (Nat.le_of_ble_eq_true rfl) (Nat.le_of_ble_eq_true rfl) dX1_take_19 (fun H locs hP hS => ?_)
  have hP := gpc (k := 6 + 2 * i) hP (gRow_fl (by omega))
  refine lv_aload_n hx hb dX1_take_22 rfl (lv_at hl 0 rfl) ?_
  refine lv_aload_n hx hb dX1_take_23 rfl (lv_at hl 1 rfl) ?_
  refine x_get (ref := RX1) (C := RX1) (T := TX1) (N := 4) (ci := 1) (v := .int (N (5 + 2 * i) 2)) hx hb hts iX1 hown hK.1 hP (by omega) (by omega) (((gw_out (by omega)).trans (gw_cell (by omega)))) rfl 2 (by decide) (hts (.fieldLink RX1 25 "PoreField$Cell" "isShutEast" "Z") (by decide +kernel)) (fun _ h9 => h9) rfl dX1_take_24 ?_
  refine x_put (ty := .boolean) (ref := RX1) (C := RX1) (T := TX1) (N := 4) (ci := 1) (v := .int (N (5 + 2 * i) 2)) hx hb hts iX1 tyX1 tyX1_ok nmX1 hown hK.1 hP hS (by omega) (by omega) (gw_cell (by omega)) rfl 2 (by decide) (hts (.fieldLink RX1 25 "PoreField$Cell" "isShutEast" "Z") (by decide +kernel)) (fun _ h9 => h9) rfl (by decide +kernel) (nar_z hsh.1) (fit_z hsh.1) (Nat.le_of_ble_eq_true rfl) dX1_take_27 (fun H locs hP hS => ?_)
  have hP := gp (k := 5 + 2 * i) (j := 2) (v := (N (5 + 2 * i) 2)) hP (by omega) (by rw [gEr_cell (by omega)]; rfl)
  refine lv_aload_n hx hb dX1_take_30 rfl (lv_at hl 0 rfl) ?_
  refine lv_aload_n hx hb dX1_take_31 rfl (lv_at hl 1 rfl) ?_
  refine x_get (ref := RX1) (C := RX1) (T := TX1) (N := 4) (ci := 1) (v := .int (N (5 + 2 * i) 3)) hx hb hts iX1 hown hK.1 hP (by omega) (by omega) (((gw_out (by omega)).trans (gw_cell (by omega)))) rfl 3 (by decide) (hts (.fieldLink RX1 29 "PoreField$Cell" "isShutSouth" "Z") (by decide +kernel)) (fun _ h9 => h9) rfl dX1_take_32 ?_
  refine x_put (ty := .boolean) (ref := RX1) (C := RX1) (T := TX1) (N := 4) (ci := 1) (v := .int (N (5 + 2 * i) 3)) hx hb hts iX1 tyX1 tyX1_ok nmX1 hown hK.1 hP hS (by omega) (by omega) (gw_cell (by omega)) rfl 3 (by decide) (hts (.fieldLink RX1 29 "PoreField$Cell" "isShutSouth" "Z") (by decide +kernel)) (fun _ h9 => h9) rfl (by decide +kernel) (nar_z hsh.2) (fit_z hsh.2) (Nat.le_of_ble_eq_true rfl) dX1_take_35 (fun H locs hP hS => ?_)
  have hP := gp (k := 5 + 2 * i) (j := 3) (v := (N (5 + 2 * i) 3)) hP (by omega) (by rw [gEr_cell (by omega)]; rfl)
  exact W.vret hx hb hr (fun tE ht hW => ⟨⟨(), rfl, trivial, x_at ht (hP)⟩, hS.F ht⟩) hS.2.2 dX1_take_38

set_option maxRecDepth 100000 in
set_option maxHeartbeats 4000000 in
/-- Well.take -/
theorem c_X4_take (l : Launch) (D : va_G) (cy : Nat → ClassId) (lo n : Nat) (w0 : Nat → va_E) (g : Nat) (M : Mem) (hg1 : lo ≤ g) (hg2 : g + 49 ≤ lo + n) (g2 : Nat) (N : Mem) (hn1 : lo ≤ g2) (hn2 : g2 + 49 ≤ lo + n) (hdis : g2 + 49 ≤ g ∨ g + 49 ≤ g2) (i : Nat) (hi : i < 6) : Met l yX4_take wsX4_take ({ frames := 0, cells := 0, slots := 0, locals := 0 }) (PcW D cy lo n (gw cy (gw cy w0 g2 N) g M) [.ref (g + (37 + 2 * i)), .ref (g2 + (37 + 2 * i))]) (QvW D lo n (gw cy (gw cy w0 g2 N) g (m_takeW i N M))) 0 0 (fun q : Nat => lo ≤ q) := by
  refine Met.ofW (cc := cX4_take) (maxL := 2) (ret := none) (by decide) rfl ?_
  intro p e s m args below meth c s₁ B hml hv
  obtain ⟨rfl, hP, hK, hS⟩ := x_entry hv
  have hx := B.exec
  have hb := B.bytes
  have hr := B.returns
  have hts := atoms_spec (ws := wsX4_take) B.pre
  have hown : s.vm.findClass RX4 = some m.cls := findClass_of_methodNamed B.named
  have hlocks := B.notSynchronized
  have iX4 : ∀ w ∈ u_ws RX4 TX4 5, w ∈ wsX4_take := by decide +kernel
  have hl := lv_entry ([.ref (g + (37 + 2 * i)), .ref (g2 + (37 + 2 * i))]) (n := 2) (Nat.le_of_ble_eq_true rfl)
  rw [lg_entry_eq]
  generalize (lg_sl ([.ref (g + (37 + 2 * i)), .ref (g2 + (37 + 2 * i))]) ++ List.replicate (2 - (lg_sl ([.ref (g + (37 + 2 * i)), .ref (g2 + (37 + 2 * i))])).length) Slot.unset).toArray = ls at hl ⊢
  have hl : lv_has ls 2 [(0, .ref (g + (37 + 2 * i))), (1, .ref (g2 + (37 + 2 * i)))] := hl
  refine lv_aload_n hx hb dX4_take_0 rfl (lv_at hl 0 rfl) ?_
  refine lv_aload_n hx hb dX4_take_1 rfl (lv_at hl 1 rfl) ?_
  refine x_get (ref := RX4) (C := RX4) (T := TX4) (N := 5) (ci := 4) (v := .int (N (37 + 2 * i) 0)) hx hb hts iX4 hown hK.1 hP (by omega) (by omega) (((gw_out (by omega)).trans (gw_well (by omega)))) rfl 0 (by decide) (hts (.fieldLink RX4 19 "PoreField$Well" "kind" "I") (by decide +kernel)) (fun _ h9 => h9) rfl dX4_take_2 ?_
  refine x_put (ty := .int) (ref := RX4) (C := RX4) (T := TX4) (N := 5) (ci := 4) (v := .int (N (37 + 2 * i) 0)) hx hb hts iX4 tyX4 tyX4_ok nmX4 hown hK.1 hP hS (by omega) (by omega) (gw_well (by omega)) rfl 0 (by decide) (hts (.fieldLink RX4 19 "PoreField$Well" "kind" "I") (by decide +kernel)) (fun _ h9 => h9) rfl (by decide +kernel) rfl rfl (Nat.le_of_ble_eq_true rfl) dX4_take_5 (fun H locs hP hS => ?_)
  have hP := gp (k := 37 + 2 * i) (j := 0) (v := (N (37 + 2 * i) 0)) hP (by omega) (by rw [gEr_well (by omega)]; rfl)
  refine lv_aload_n hx hb dX4_take_8 rfl (lv_at hl 0 rfl) ?_
  refine lv_aload_n hx hb dX4_take_9 rfl (lv_at hl 1 rfl) ?_
  refine x_get (ref := RX4) (C := RX4) (T := TX4) (N := 5) (ci := 4) (v := .int (N (37 + 2 * i) 1)) hx hb hts iX4 hown hK.1 hP (by omega) (by omega) (((gw_out (by omega)).trans (gw_well (by omega)))) rfl 1 (by decide) (hts (.fieldLink RX4 22 "PoreField$Well" "cell" "I") (by decide +kernel)) (fun _ h9 => h9) rfl dX4_take_10 ?_
  refine x_put (ty := .int) (ref := RX4) (C := RX4) (T := TX4) (N := 5) (ci := 4) (v := .int (N (37 + 2 * i) 1)) hx hb hts iX4 tyX4 tyX4_ok nmX4 hown hK.1 hP hS (by omega) (by omega) (gw_well (by omega)) rfl 1 (by decide) (hts (.fieldLink RX4 22 "PoreField$Well" "cell" "I") (by decide +kernel)) (fun _ h9 => h9) rfl (by decide +kernel) rfl rfl (Nat.le_of_ble_eq_true rfl) dX4_take_13 (fun H locs hP hS => ?_)
  have hP := gp (k := 37 + 2 * i) (j := 1) (v := (N (37 + 2 * i) 1)) hP (by omega) (by rw [gEr_well (by omega)]; rfl)
  refine lv_aload_n hx hb dX4_take_16 rfl (lv_at hl 0 rfl) ?_
  refine lv_aload_n hx hb dX4_take_17 rfl (lv_at hl 1 rfl) ?_
  refine x_get (ref := RX4) (C := RX4) (T := TX4) (N := 5) (ci := 4) (v := .int (N (37 + 2 * i) 2)) hx hb hts iX4 hown hK.1 hP (by omega) (by omega) (((gw_out (by omega)).trans (gw_well (by omega)))) rfl 2 (by decide) (hts (.fieldLink RX4 25 "PoreField$Well" "choke" "I") (by decide +kernel)) (fun _ h9 => h9) rfl dX4_take_18 ?_
  refine x_put (ty := .int) (ref := RX4) (C := RX4) (T := TX4) (N := 5) (ci := 4) (v := .int (N (37 + 2 * i) 2)) hx hb hts iX4 tyX4 tyX4_ok nmX4 hown hK.1 hP hS (by omega) (by omega) (gw_well (by omega)) rfl 2 (by decide) (hts (.fieldLink RX4 25 "PoreField$Well" "choke" "I") (by decide +kernel)) (fun _ h9 => h9) rfl (by decide +kernel) rfl rfl (Nat.le_of_ble_eq_true rfl) dX4_take_21 (fun H locs hP hS => ?_)
  have hP := gp (k := 37 + 2 * i) (j := 2) (v := (N (37 + 2 * i) 2)) hP (by omega) (by rw [gEr_well (by omega)]; rfl)
  refine lv_aload_n hx hb dX4_take_24 rfl (lv_at hl 0 rfl) ?_
  refine lv_aload_n hx hb dX4_take_25 rfl (lv_at hl 1 rfl) ?_
  refine x_get (ref := RX4) (C := RX4) (T := TX4) (N := 5) (ci := 4) (v := .int (N (37 + 2 * i) 3)) hx hb hts iX4 hown hK.1 hP (by omega) (by omega) (((gw_out (by omega)).trans (gw_well (by omega)))) rfl 3 (by decide) (hts (.fieldLink RX4 9 "PoreField$Well" "rank" "I") (by decide +kernel)) (fun _ h9 => h9) rfl dX4_take_26 ?_
  refine x_put (ty := .int) (ref := RX4) (C := RX4) (T := TX4) (N := 5) (ci := 4) (v := .int (N (37 + 2 * i) 3)) hx hb hts iX4 tyX4 tyX4_ok nmX4 hown hK.1 hP hS (by omega) (by omega) (gw_well (by omega)) rfl 3 (by decide) (hts (.fieldLink RX4 9 "PoreField$Well" "rank" "I") (by decide +kernel)) (fun _ h9 => h9) rfl (by decide +kernel) rfl rfl (Nat.le_of_ble_eq_true rfl) dX4_take_29 (fun H locs hP hS => ?_)
  have hP := gp (k := 37 + 2 * i) (j := 3) (v := (N (37 + 2 * i) 3)) hP (by omega) (by rw [gEr_well (by omega)]; rfl)
  exact W.vret hx hb hr (fun tE ht hW => ⟨⟨(), rfl, trivial, x_at ht (hP)⟩, hS.F ht⟩) hS.2.2 dX4_take_32

set_option maxRecDepth 100000 in
set_option maxHeartbeats 4000000 in
/-- Well.forgetMonth -/
theorem c_X4_forgetMonth (l : Launch) (D : va_G) (cy : Nat → ClassId) (lo n : Nat) (w0 : Nat → va_E) (g : Nat) (M : Mem) (hg1 : lo ≤ g) (hg2 : g + 49 ≤ lo + n) (w : Nat) (hw : w < 6) : Met l yX4_forgetMonth wsX4_forgetMonth ({ frames := 0, cells := 0, slots := 0, locals := 0 }) (PcW D cy lo n (gw cy w0 g M) [.ref (g + (37 + 2 * w))]) (QvW D lo n (gw cy w0 g (m_forget w M))) 0 0 (fun q : Nat => lo ≤ q) := by
  refine Met.ofW (cc := cX4_forgetMonth) (maxL := 2) (ret := none) (by decide) rfl ?_
  intro p e s m args below meth c s₁ B hml hv
  obtain ⟨rfl, hP, hK, hS⟩ := x_entry hv
  have hx := B.exec
  have hb := B.bytes
  have hr := B.returns
  have hts := atoms_spec (ws := wsX4_forgetMonth) B.pre
  have hown : s.vm.findClass RX4 = some m.cls := findClass_of_methodNamed B.named
  have hlocks := B.notSynchronized
  have iX4 : ∀ w ∈ u_ws RX4 TX4 5, w ∈ wsX4_forgetMonth := by decide +kernel
  have hl := lv_entry ([.ref (g + (37 + 2 * w))]) (n := 2) (Nat.le_of_ble_eq_true rfl)
  rw [lg_entry_eq]
  generalize (lg_sl ([.ref (g + (37 + 2 * w))]) ++ List.replicate (2 - (lg_sl ([.ref (g + (37 + 2 * w))])).length) Slot.unset).toArray = ls at hl ⊢
  have hl : lv_has ls 2 [(0, .ref (g + (37 + 2 * w)))] := hl
  refine lv_iconst (v := 0) hx hb dX4_forgetMonth_0 (by decide) ?_
  refine lv_istore_n (lv' := [(1, .int (0 : Int32)), (0, .ref (g + (37 + 2 * w)))]) hx hb dX4_forgetMonth_1 rfl hl (by decide) rfl (fun ls hl => ?_)
  have hloop2 : ∀ (f_r f : Nat) (H : Heap) (locs : List Loc) (ls : Array Slot), f + f_r = 3 → lv_has ls 2 [(1, .int (nI f)), (0, .ref (g + (37 + 2 * w)))] → va_P D vwCl (rl lo n (gw cy w0 g (fo (fun f M => u2 M (38 + 2 * w) f 0) f M))) H → va_S (fun q : Nat => lo ≤ q) s.heap H locs → W p l e (headSpec wsX4_forgetMonth ({ frames := 0, cells := 0, slots := 0, locals := 0 })).room s m (([.ref (g + (37 + 2 * w))] : List Value).toArray) below meth c H locs 0 0 (MQ below (QvW D lo n (gw cy w0 g (m_forget w M))) (([.ref (g + (37 + 2 * w))] : List Value).toArray) s 0 0 (fun q : Nat => lo ≤ q)) (F0 m 2 ls []) := by
    intro f_r
    induction f_r with
    | zero =>
      intro f H locs ls hk2 hl hP hS
      obtain rfl : f = 3 := by omega
      refine lv_iload_n hx hb dX4_forgetMonth_2 rfl (lv_at hl 0 rfl) ?_
      refine lv_iconst (v := 3) hx hb dX4_forgetMonth_3 (by decide) ?_
      refine lv_icmp_ge (tgt := 20) hx hb dX4_forgetMonth_4 (by decide) (fun _ => ?_) (fun c => absurd ((br_le (show (3 : Int32) = nI 3 from rfl) (show (nI 3) = nI 3 from rfl) (by omega) (by omega)).mpr (by omega)) c)
      exact W.vret hx hb hr (fun tE ht hW => ⟨⟨(), rfl, trivial, x_at ht (hP)⟩, hS.F ht⟩) hS.2.2 dX4_forgetMonth_20
    | succ f_r ih2 =>
      intro f H locs ls hk2 hl hP hS
      refine lv_iload_n hx hb dX4_forgetMonth_2 rfl (lv_at hl 0 rfl) ?_
      refine lv_iconst (v := 3) hx hb dX4_forgetMonth_3 (by decide) ?_
      refine lv_icmp_ge (tgt := 20) hx hb dX4_forgetMonth_4 (by decide) (fun c => absurd ((br_le (show (3 : Int32) = nI 3 from rfl) (show (nI f) = nI f from rfl) (by omega) (by omega)).mp c) (by omega)) (fun _ => ?_)
      refine lv_aload_n hx hb dX4_forgetMonth_7 rfl (lv_at hl 1 rfl) ?_
      refine x_get (ref := RX4) (C := RX4) (T := TX4) (N := 5) (ci := 4) (v := .ref (g + (38 + 2 * w))) hx hb hts iX4 hown hK.1 hP (by omega) (by omega) (gw_well (by omega)) rfl 4 (by decide) (hts (.fieldLink RX4 15 "PoreField$Well" "gave" "[I") (by decide +kernel)) (fun _ h9 => h9) rfl dX4_forgetMonth_8 ?_
      refine lv_iload_n hx hb dX4_forgetMonth_11 rfl (lv_at hl 0 rfl) ?_
      refine lv_iconst (v := 0) hx hb dX4_forgetMonth_12 (by decide) ?_
      refine x_iast (v := (0 : Int32)) hx hb hK.1 hP hS (by omega) (by omega) 0 (gw_row (gRow_gave (by omega))) rfl (cl_of_nI (i := f) rfl (by omega)) (vp_in_of_nI (i := f) rfl (by omega) (by omega)) dX4_forgetMonth_13 (fun H locs hP hS => ?_)
      have hP := gpr (k := 38 + 2 * w) (j := f) (v := (0 : Int32)) hP (gRow_gave (by omega))
      refine lv_iinc (v := (nI (f + 1))) (lv' := [(1, .int (nI (f + 1))), (0, .ref (g + (37 + 2 * w)))]) hx hb dX4_forgetMonth_14 hl (k := 0) rfl (nI_1 _) (by decide) rfl (fun ls hl => ?_)
      refine lv_goto (tgt := 2) hx hb dX4_forgetMonth_17 (by decide) ?_
      exact ih2 (f + 1) _ _ _ (by omega) (lv_sub hl [0, 1] rfl) (hP) hS
  exact hloop2 3 0 _ _ _ (by omega) (lv_sub hl [0, 1] rfl) (hP) hS

set_option maxRecDepth 100000 in
set_option maxHeartbeats 4000000 in
/-- Well.hasProduced -/
theorem c_X4_hasProduced (l : Launch) (D : va_G) (cy : Nat → ClassId) (lo n : Nat) (w0 : Nat → va_E) (g : Nat) (M : Mem) (hg1 : lo ≤ g) (hg2 : g + 49 ≤ lo + n) (w : Nat) (hw : w < 6) : Met l yX4_hasProduced wsX4_hasProduced ({ frames := 0, cells := 0, slots := 0, locals := 0 }) (PcW D cy lo n (gw cy w0 g M) [.ref (g + (37 + 2 * w))]) (QiW D lo n (gw cy w0 g M) (m_hasP M w)) 0 0 (fun q : Nat => lo ≤ q) := by
  refine Met.ofW (cc := cX4_hasProduced) (maxL := 1) (ret := (some .boolean)) (by decide) rfl ?_
  intro p e s m args below meth c s₁ B hml hv
  obtain ⟨rfl, hP, hK, hS⟩ := x_entry hv
  have hx := B.exec
  have hb := B.bytes
  have hr := B.returns
  have hts := atoms_spec (ws := wsX4_hasProduced) B.pre
  have hown : s.vm.findClass RX4 = some m.cls := findClass_of_methodNamed B.named
  have hlocks := B.notSynchronized
  have iX4 : ∀ w ∈ u_ws RX4 TX4 5, w ∈ wsX4_hasProduced := by decide +kernel
  have hl := lv_entry ([.ref (g + (37 + 2 * w))]) (n := 1) (Nat.le_of_ble_eq_true rfl)
  rw [lg_entry_eq]
  generalize (lg_sl ([.ref (g + (37 + 2 * w))]) ++ List.replicate (1 - (lg_sl ([.ref (g + (37 + 2 * w))])).length) Slot.unset).toArray = ls at hl ⊢
  have hl : lv_has ls 1 [(0, .ref (g + (37 + 2 * w)))] := hl
  refine lv_aload_n hx hb dX4_hasProduced_0 rfl (lv_at hl 0 rfl) ?_
  refine x_get (ref := RX4) (C := RX4) (T := TX4) (N := 5) (ci := 4) (v := .int (M (37 + 2 * w) 0)) hx hb hts iX4 hown hK.1 hP (by omega) (by omega) (gw_well (by omega)) rfl 0 (by decide) (hts (.fieldLink RX4 19 "PoreField$Well" "kind" "I") (by decide +kernel)) (fun _ h9 => h9) rfl dX4_hasProduced_1 ?_
  refine lv_if_ne (tgt := 34) hx hb dX4_hasProduced_4 (by decide) (fun c_4 => ?_) (fun c_4 => ?_)
  · refine lv_iconst (v := 0) hx hb dX4_hasProduced_34 (by decide) ?_
    exact W.zret (v := (0 : Int32)) hx hb hr rfl (fun tE ht hW => ⟨⟨(0 : Int32), (), rfl, (by simp only [m_hasP, if_neg c_4]), x_at ht (hP)⟩, hS.F ht⟩) hS.2.2 dX4_hasProduced_35
  · refine lv_aload_n hx hb dX4_hasProduced_7 rfl (lv_at hl 0 rfl) ?_
    refine x_get (ref := RX4) (C := RX4) (T := TX4) (N := 5) (ci := 4) (v := .ref (g + (38 + 2 * w))) hx hb hts iX4 hown hK.1 hP (by omega) (by omega) (gw_well (by omega)) rfl 4 (by decide) (hts (.fieldLink RX4 15 "PoreField$Well" "gave" "[I") (by decide +kernel)) (fun _ h9 => h9) rfl dX4_hasProduced_8 ?_
    refine lv_iconst (v := 0) hx hb dX4_hasProduced_11 (by decide) ?_
    refine x_iald hx hb hK.1 hP (by omega) (by omega) 0 (gw_row (gRow_gave (by omega))) rfl (cl_of_nI (i := 0) rfl (by omega)) (vp_in_of_nI (i := 0) rfl (by omega) (by omega)) dX4_hasProduced_12 ?_
    refine lv_aload_n hx hb dX4_hasProduced_13 rfl (lv_at hl 0 rfl) ?_
    refine x_get (ref := RX4) (C := RX4) (T := TX4) (N := 5) (ci := 4) (v := .ref (g + (38 + 2 * w))) hx hb hts iX4 hown hK.1 hP (by omega) (by omega) (gw_well (by omega)) rfl 4 (by decide) (hts (.fieldLink RX4 15 "PoreField$Well" "gave" "[I") (by decide +kernel)) (fun _ h9 => h9) rfl dX4_hasProduced_14 ?_
    refine lv_iconst (v := 1) hx hb dX4_hasProduced_17 (by decide) ?_
    refine x_iald hx hb hK.1 hP (by omega) (by omega) 0 (gw_row (gRow_gave (by omega))) rfl (cl_of_nI (i := 1) rfl (by omega)) (vp_in_of_nI (i := 1) rfl (by omega) (by omega)) dX4_hasProduced_18 ?_
    refine lv_iadd hx hb dX4_hasProduced_19 ?_
    refine lv_aload_n hx hb dX4_hasProduced_20 rfl (lv_at hl 0 rfl) ?_
    refine x_get (ref := RX4) (C := RX4) (T := TX4) (N := 5) (ci := 4) (v := .ref (g + (38 + 2 * w))) hx hb hts iX4 hown hK.1 hP (by omega) (by omega) (gw_well (by omega)) rfl 4 (by decide) (hts (.fieldLink RX4 15 "PoreField$Well" "gave" "[I") (by decide +kernel)) (fun _ h9 => h9) rfl dX4_hasProduced_21 ?_
    refine lv_iconst (v := 2) hx hb dX4_hasProduced_24 (by decide) ?_
    refine x_iald hx hb hK.1 hP (by omega) (by omega) 0 (gw_row (gRow_gave (by omega))) rfl (cl_of_nI (i := 2) rfl (by omega)) (vp_in_of_nI (i := 2) rfl (by omega) (by omega)) dX4_hasProduced_25 ?_
    refine lv_iadd hx hb dX4_hasProduced_26 ?_
    refine lv_if_le (tgt := 34) hx hb dX4_hasProduced_27 (by decide) (fun c_27 => ?_) (fun c_27 => ?_)
    · refine lv_iconst (v := 0) hx hb dX4_hasProduced_34 (by decide) ?_
      exact W.zret (v := (0 : Int32)) hx hb hr rfl (fun tE ht hW => ⟨⟨(0 : Int32), (), rfl, (by simp only [m_hasP, if_pos c_4, if_pos c_27]), x_at ht (hP)⟩, hS.F ht⟩) hS.2.2 dX4_hasProduced_35
    · refine lv_iconst (v := 1) hx hb dX4_hasProduced_30 (by decide) ?_
      refine lv_goto (tgt := 35) hx hb dX4_hasProduced_31 (by decide) ?_
      exact W.zret (v := (1 : Int32)) hx hb hr rfl (fun tE ht hW => ⟨⟨(1 : Int32), (), rfl, (by simp only [m_hasP, if_pos c_4, if_neg c_27]), x_at ht (hP)⟩, hS.F ht⟩) hS.2.2 dX4_hasProduced_35
