/-! the reckoner's own methods, on a new one, further -/
set_option maxRecDepth 100000 in
set_option maxHeartbeats 1000000 in
/-- manyNow, 0 -/
theorem c_X8_manyNow_0 (l : Launch) (D : va_G) (cy : Nat → ClassId) (lo n : Nat) (w : Nat → va_E) (q : Nat) (h1 : lo ≤ q) (h2 : q + 22 ≤ lo + n) (th : Int32) (hM : MM cy w q th 5 0 0 0) (hB : LB cy w q) (hF : FM cy w (q + 1) 0 300) : Met l yX8_manyNow wsX8_manyNow ({ frames := 1, cells := 0, slots := 0, locals := 22 }) (PcW D cy lo n w [.ref q, .int (nI 0)]) (QiW D lo n w 0) 0 0 (fun q : Nat => lo ≤ q) := by
  refine Met.ofW (cc := cX8_manyNow) (maxL := 4) (ret := (some .int)) (by decide) rfl ?_
  intro p e s m args below meth c s₁ B hml hv
  obtain ⟨rfl, hP, hK, hS⟩ := x_entry hv
  have hx := B.exec
  have hb := B.bytes
  have hr := B.returns
  have hts := atoms_spec (ws := wsX8_manyNow) B.pre
  have hown : s.vm.findClass RX8 = some m.cls := findClass_of_methodNamed B.named
  have hlocks := B.notSynchronized
  have iX7 : ∀ w ∈ u_ws RX7 TX7 14, w ∈ wsX8_manyNow := by decide +kernel
  have iX8 : ∀ w ∈ u_ws RX8 TX8 8, w ∈ wsX8_manyNow := by decide +kernel
  have hl := lv_entry ([.ref q, .int (nI 0)]) (n := 4) (Nat.le_of_ble_eq_true rfl)
  rw [lg_entry_eq]
  generalize (lg_sl ([.ref q, .int (nI 0)]) ++ List.replicate (4 - (lg_sl ([.ref q, .int (nI 0)])).length) Slot.unset).toArray = ls at hl ⊢
  have hl : lv_has ls 4 [(0, .ref q), (1, .int (nI 0))] := hl
  refine lv_iconst (v := 0) hx hb dX8_manyNow_0 (by decide) ?_
  refine lv_istore_n (lv' := [(2, .int (0 : Int32)), (0, .ref q), (1, .int (nI 0))]) hx hb dX8_manyNow_1 rfl hl (by decide) rfl (fun ls hl => ?_)
  refine lv_iconst (v := 0) hx hb dX8_manyNow_2 (by decide) ?_
  refine lv_istore_n (lv' := [(3, .int (0 : Int32)), (2, .int (0 : Int32)), (0, .ref q), (1, .int (nI 0))]) hx hb dX8_manyNow_3 rfl hl (by decide) rfl (fun ls hl => ?_)
  have L1 : ∀ (r k : Nat) (H : Heap) (locs : List Loc) (ls : Array Slot), k + r = 16 → lv_has ls 4 [(3, .int (nI k)), (2, .int (0 : Int32)), (0, .ref q), (1, .int (nI 0))] → va_P D vwCl (rl lo n w) H → va_S (fun q : Nat => lo ≤ q) s.heap H locs → W p l e (headSpec wsX8_manyNow ({ frames := 1, cells := 0, slots := 0, locals := 22 })).room s m (([.ref q, .int (nI 0)] : List Value).toArray) below meth c H locs 0 0 (MQ below (QiW D lo n w 0) (([.ref q, .int (nI 0)] : List Value).toArray) s 0 0 (fun q : Nat => lo ≤ q)) (F0 m 4 ls []) := by
    intro r
    induction r with
    | zero =>
      intro k H locs ls hk hl hP hS
      have e9 : k = 16 := by omega
      subst k
      refine lv_iload_n hx hb dX8_manyNow_4 rfl (lv_at hl 0 rfl) ?_
      refine lv_bipush (v := 16) hx hb dX8_manyNow_5 (by decide) ?_
      refine lv_icmp_ge (tgt := 91) hx hb dX8_manyNow_7 (by decide) (fun _ => ?_) (fun h => absurd ((br_le (show (16 : Int32) = nI 16 from rfl) (show (nI 16) = nI 16 from rfl) (by omega) (by omega)).mpr (by omega)) h)
      refine lv_iload_n hx hb dX8_manyNow_91 rfl (lv_at hl 3 rfl) ?_
      refine lv_tableIn (tgt := 168) (off := 76) hx hb dX8_manyNow_92 (by decide) (by decide) (by decide) (by decide) ?_
      refine lv_aload_n hx hb dX8_manyNow_168 rfl (lv_at hl 2 rfl) ?_
      refine x_get (ref := RX8) (C := RX8) (T := TX8) (N := 8) (ci := 8) (v := .ref (q + 1)) hx hb hts iX8 hown hK.1 hP (by omega) (by omega) hM.self rfl 1 (by decide) (hts (.fieldLink RX8 10 "PoreFieldModel" "field" "LPoreFieldModel$Field;") (by decide +kernel)) (fun _ h9 => h9) rfl dX8_manyNow_169 ?_
      refine x_get (ref := RX7) (C := RX7) (T := TX7) (N := 14) (ci := 7) (v := .int (0 : Int32)) hx hb hts iX7 hown hK.1 hP (by omega) (by omega) hF.self rfl 10 (by decide) (hts (.fieldLink RX8 124 "PoreFieldModel$Field" "now" "I") (by decide +kernel)) (fun _ h9 => h9) rfl dX8_manyNow_172 ?_
      exact W.iret (v := (0 : Int32)) hx hb hr (fun tE ht hW => ⟨⟨(0 : Int32), (), rfl, rfl, x_at ht hP⟩, hS.F ht⟩) hS.2.2 dX8_manyNow_175
    | succ r ih =>
      intro k H locs ls hk hl hP hS
      refine lv_iload_n hx hb dX8_manyNow_4 rfl (lv_at hl 0 rfl) ?_
      refine lv_bipush (v := 16) hx hb dX8_manyNow_5 (by decide) ?_
      refine lv_icmp_ge (tgt := 91) hx hb dX8_manyNow_7 (by decide) (fun h => absurd h (fun h9 => absurd ((br_le (show (16 : Int32) = nI 16 from rfl) (show (nI k) = nI k from rfl) (by omega) (by omega)).mp h9) (by omega))) (fun _ => ?_)
      refine lv_iload_n hx hb dX8_manyNow_10 rfl (lv_at hl 1 rfl) ?_
      refine lv_iload_n hx hb dX8_manyNow_11 rfl (lv_at hl 3 rfl) ?_
      refine lv_iconst (v := 2) hx hb dX8_manyNow_12 (by decide) ?_
      refine lv_iconst (v := 4) hx hb dX8_manyNow_13 (by decide) ?_
      refine x_calli (va_runS (As := [.int (nI 0), .int (2 : Int32), .int (4 : Int32)]) (rest := [.int (0 : Int32)]) ⟨hx, hb, hml, hown, hts⟩ (c_X8_in l D cy lo n w (nI 0) (2 : Int32) (4 : Int32)) (va_cwS 3 hts gX8_manyNow_X8_in rfl rfl rfl (by decide +kernel) ⟨Nat.le_of_ble_eq_true rfl, Nat.le_of_ble_eq_true rfl⟩) (preS hP hK) rfl rfl hl.1 rfl (lv_room (Nat.le_of_ble_eq_true rfl)) dX8_manyNow_14 ⟨Nat.le_of_ble_eq_true rfl, Nat.le_of_ble_eq_true rfl⟩) hS (fun H locs hP hS => ?_)
      refine x_top (v' := (0 : Int32)) (if_neg (by decide)) ?_
      refine lv_if_eq (tgt := 38) hx hb dX8_manyNow_17 (by decide) (fun _ => ?_) (fun h => absurd (by decide) h)
      refine lv_iload_n hx hb dX8_manyNow_38 rfl (lv_at hl 3 rfl) ?_
      refine lv_bipush (v := 13) hx hb dX8_manyNow_39 (by decide) ?_
      refine lv_icmp_ne (tgt := 82) hx hb dX8_manyNow_41 (by decide) (fun _ => ?_) (fun h => absurd h (by decide))
      refine lv_iconst (v := 0) hx hb dX8_manyNow_82 (by decide) ?_
      refine lv_iadd hx hb dX8_manyNow_83 ?_
      refine x_top (v' := 0) (by decide) ?_
      refine lv_istore_n (lv' := [(2, .int (0 : Int32)), (3, .int (nI k)), (0, .ref q), (1, .int (nI 0))]) hx hb dX8_manyNow_84 rfl hl (by decide) rfl (fun ls hl => ?_)
      refine lv_iinc (v := (nI (k + 1))) (lv' := [(3, .int (nI (k + 1))), (2, .int (0 : Int32)), (0, .ref q), (1, .int (nI 0))]) hx hb dX8_manyNow_85 hl (k := 1) rfl (nI_1 _) (by decide) rfl (fun ls hl => ?_)
      refine lv_goto (tgt := 4) hx hb dX8_manyNow_88 (by decide) ?_
      exact ih (k + 1) _ _ _ (by omega) (lv_sub hl [0, 1, 2, 3] rfl) hP hS
  exact L1 16 0 _ _ _ (by omega) (lv_sub hl [0, 1, 2, 3] rfl) hP hS

set_option maxRecDepth 100000 in
set_option maxHeartbeats 1000000 in
/-- manyNow, 1 -/
theorem c_X8_manyNow_1 (l : Launch) (D : va_G) (cy : Nat → ClassId) (lo n : Nat) (w : Nat → va_E) (q : Nat) (h1 : lo ≤ q) (h2 : q + 22 ≤ lo + n) (th : Int32) (hM : MM cy w q th 5 0 0 0) (hB : LB cy w q) (hF : FM cy w (q + 1) 0 300) : Met l yX8_manyNow wsX8_manyNow ({ frames := 1, cells := 0, slots := 0, locals := 22 }) (PcW D cy lo n w [.ref q, .int (nI 1)]) (QiW D lo n w 0) 0 0 (fun q : Nat => lo ≤ q) := by
  refine Met.ofW (cc := cX8_manyNow) (maxL := 4) (ret := (some .int)) (by decide) rfl ?_
  intro p e s m args below meth c s₁ B hml hv
  obtain ⟨rfl, hP, hK, hS⟩ := x_entry hv
  have hx := B.exec
  have hb := B.bytes
  have hr := B.returns
  have hts := atoms_spec (ws := wsX8_manyNow) B.pre
  have hown : s.vm.findClass RX8 = some m.cls := findClass_of_methodNamed B.named
  have hlocks := B.notSynchronized
  have iX7 : ∀ w ∈ u_ws RX7 TX7 14, w ∈ wsX8_manyNow := by decide +kernel
  have iX8 : ∀ w ∈ u_ws RX8 TX8 8, w ∈ wsX8_manyNow := by decide +kernel
  have hl := lv_entry ([.ref q, .int (nI 1)]) (n := 4) (Nat.le_of_ble_eq_true rfl)
  rw [lg_entry_eq]
  generalize (lg_sl ([.ref q, .int (nI 1)]) ++ List.replicate (4 - (lg_sl ([.ref q, .int (nI 1)])).length) Slot.unset).toArray = ls at hl ⊢
  have hl : lv_has ls 4 [(0, .ref q), (1, .int (nI 1))] := hl
  refine lv_iconst (v := 0) hx hb dX8_manyNow_0 (by decide) ?_
  refine lv_istore_n (lv' := [(2, .int (0 : Int32)), (0, .ref q), (1, .int (nI 1))]) hx hb dX8_manyNow_1 rfl hl (by decide) rfl (fun ls hl => ?_)
  refine lv_iconst (v := 0) hx hb dX8_manyNow_2 (by decide) ?_
  refine lv_istore_n (lv' := [(3, .int (0 : Int32)), (2, .int (0 : Int32)), (0, .ref q), (1, .int (nI 1))]) hx hb dX8_manyNow_3 rfl hl (by decide) rfl (fun ls hl => ?_)
  have L1 : ∀ (r k : Nat) (H : Heap) (locs : List Loc) (ls : Array Slot), k + r = 16 → lv_has ls 4 [(3, .int (nI k)), (2, .int (0 : Int32)), (0, .ref q), (1, .int (nI 1))] → va_P D vwCl (rl lo n w) H → va_S (fun q : Nat => lo ≤ q) s.heap H locs → W p l e (headSpec wsX8_manyNow ({ frames := 1, cells := 0, slots := 0, locals := 22 })).room s m (([.ref q, .int (nI 1)] : List Value).toArray) below meth c H locs 0 0 (MQ below (QiW D lo n w 0) (([.ref q, .int (nI 1)] : List Value).toArray) s 0 0 (fun q : Nat => lo ≤ q)) (F0 m 4 ls []) := by
    intro r
    induction r with
    | zero =>
      intro k H locs ls hk hl hP hS
      have e9 : k = 16 := by omega
      subst k
      refine lv_iload_n hx hb dX8_manyNow_4 rfl (lv_at hl 0 rfl) ?_
      refine lv_bipush (v := 16) hx hb dX8_manyNow_5 (by decide) ?_
      refine lv_icmp_ge (tgt := 91) hx hb dX8_manyNow_7 (by decide) (fun _ => ?_) (fun h => absurd ((br_le (show (16 : Int32) = nI 16 from rfl) (show (nI 16) = nI 16 from rfl) (by omega) (by omega)).mpr (by omega)) h)
      refine lv_iload_n hx hb dX8_manyNow_91 rfl (lv_at hl 3 rfl) ?_
      refine lv_tableIn (tgt := 176) (off := 84) hx hb dX8_manyNow_92 (by decide) (by decide) (by decide) (by decide) ?_
      refine lv_aload_n hx hb dX8_manyNow_176 rfl (lv_at hl 2 rfl) ?_
      refine x_get (ref := RX8) (C := RX8) (T := TX8) (N := 8) (ci := 8) (v := .ref (q + 1)) hx hb hts iX8 hown hK.1 hP (by omega) (by omega) hM.self rfl 1 (by decide) (hts (.fieldLink RX8 10 "PoreFieldModel" "field" "LPoreFieldModel$Field;") (by decide +kernel)) (fun _ h9 => h9) rfl dX8_manyNow_177 ?_
      refine x_get (ref := RX7) (C := RX7) (T := TX7) (N := 14) (ci := 7) (v := .int (0 : Int32)) hx hb hts iX7 hown hK.1 hP (by omega) (by omega) hF.self rfl 9 (by decide) (hts (.fieldLink RX8 40 "PoreFieldModel$Field" "wellCount" "I") (by decide +kernel)) (fun _ h9 => h9) rfl dX8_manyNow_180 ?_
      exact W.iret (v := (0 : Int32)) hx hb hr (fun tE ht hW => ⟨⟨(0 : Int32), (), rfl, rfl, x_at ht hP⟩, hS.F ht⟩) hS.2.2 dX8_manyNow_183
    | succ r ih =>
      intro k H locs ls hk hl hP hS
      refine lv_iload_n hx hb dX8_manyNow_4 rfl (lv_at hl 0 rfl) ?_
      refine lv_bipush (v := 16) hx hb dX8_manyNow_5 (by decide) ?_
      refine lv_icmp_ge (tgt := 91) hx hb dX8_manyNow_7 (by decide) (fun h => absurd h (fun h9 => absurd ((br_le (show (16 : Int32) = nI 16 from rfl) (show (nI k) = nI k from rfl) (by omega) (by omega)).mp h9) (by omega))) (fun _ => ?_)
      refine lv_iload_n hx hb dX8_manyNow_10 rfl (lv_at hl 1 rfl) ?_
      refine lv_iload_n hx hb dX8_manyNow_11 rfl (lv_at hl 3 rfl) ?_
      refine lv_iconst (v := 2) hx hb dX8_manyNow_12 (by decide) ?_
      refine lv_iconst (v := 4) hx hb dX8_manyNow_13 (by decide) ?_
      refine x_calli (va_runS (As := [.int (nI 1), .int (2 : Int32), .int (4 : Int32)]) (rest := [.int (0 : Int32)]) ⟨hx, hb, hml, hown, hts⟩ (c_X8_in l D cy lo n w (nI 1) (2 : Int32) (4 : Int32)) (va_cwS 3 hts gX8_manyNow_X8_in rfl rfl rfl (by decide +kernel) ⟨Nat.le_of_ble_eq_true rfl, Nat.le_of_ble_eq_true rfl⟩) (preS hP hK) rfl rfl hl.1 rfl (lv_room (Nat.le_of_ble_eq_true rfl)) dX8_manyNow_14 ⟨Nat.le_of_ble_eq_true rfl, Nat.le_of_ble_eq_true rfl⟩) hS (fun H locs hP hS => ?_)
      refine x_top (v' := (0 : Int32)) (if_neg (by decide)) ?_
      refine lv_if_eq (tgt := 38) hx hb dX8_manyNow_17 (by decide) (fun _ => ?_) (fun h => absurd (by decide) h)
      refine lv_iload_n hx hb dX8_manyNow_38 rfl (lv_at hl 3 rfl) ?_
      refine lv_bipush (v := 13) hx hb dX8_manyNow_39 (by decide) ?_
      refine lv_icmp_ne (tgt := 82) hx hb dX8_manyNow_41 (by decide) (fun _ => ?_) (fun h => absurd h (by decide))
      refine lv_iconst (v := 0) hx hb dX8_manyNow_82 (by decide) ?_
      refine lv_iadd hx hb dX8_manyNow_83 ?_
      refine x_top (v' := 0) (by decide) ?_
      refine lv_istore_n (lv' := [(2, .int (0 : Int32)), (3, .int (nI k)), (0, .ref q), (1, .int (nI 1))]) hx hb dX8_manyNow_84 rfl hl (by decide) rfl (fun ls hl => ?_)
      refine lv_iinc (v := (nI (k + 1))) (lv' := [(3, .int (nI (k + 1))), (2, .int (0 : Int32)), (0, .ref q), (1, .int (nI 1))]) hx hb dX8_manyNow_85 hl (k := 1) rfl (nI_1 _) (by decide) rfl (fun ls hl => ?_)
      refine lv_goto (tgt := 4) hx hb dX8_manyNow_88 (by decide) ?_
      exact ih (k + 1) _ _ _ (by omega) (lv_sub hl [0, 1, 2, 3] rfl) hP hS
  exact L1 16 0 _ _ _ (by omega) (lv_sub hl [0, 1, 2, 3] rfl) hP hS

set_option maxRecDepth 100000 in
set_option maxHeartbeats 1000000 in
/-- manyNow, 2 -/
theorem c_X8_manyNow_2 (l : Launch) (D : va_G) (cy : Nat → ClassId) (lo n : Nat) (w : Nat → va_E) (q : Nat) (h1 : lo ≤ q) (h2 : q + 22 ≤ lo + n) (th : Int32) (hM : MM cy w q th 5 0 0 0) (hB : LB cy w q) (hF : FM cy w (q + 1) 0 300) : Met l yX8_manyNow wsX8_manyNow ({ frames := 1, cells := 0, slots := 0, locals := 22 }) (PcW D cy lo n w [.ref q, .int (nI 2)]) (QiW D lo n w 0) 0 0 (fun q : Nat => lo ≤ q) := by
  refine Met.ofW (cc := cX8_manyNow) (maxL := 4) (ret := (some .int)) (by decide) rfl ?_
  intro p e s m args below meth c s₁ B hml hv
  obtain ⟨rfl, hP, hK, hS⟩ := x_entry hv
  have hx := B.exec
  have hb := B.bytes
  have hr := B.returns
  have hts := atoms_spec (ws := wsX8_manyNow) B.pre
  have hown : s.vm.findClass RX8 = some m.cls := findClass_of_methodNamed B.named
  have hlocks := B.notSynchronized
  have iX7 : ∀ w ∈ u_ws RX7 TX7 14, w ∈ wsX8_manyNow := by decide +kernel
  have iX8 : ∀ w ∈ u_ws RX8 TX8 8, w ∈ wsX8_manyNow := by decide +kernel
  have hl := lv_entry ([.ref q, .int (nI 2)]) (n := 4) (Nat.le_of_ble_eq_true rfl)
  rw [lg_entry_eq]
  generalize (lg_sl ([.ref q, .int (nI 2)]) ++ List.replicate (4 - (lg_sl ([.ref q, .int (nI 2)])).length) Slot.unset).toArray = ls at hl ⊢
  have hl : lv_has ls 4 [(0, .ref q), (1, .int (nI 2))] := hl
  refine lv_iconst (v := 0) hx hb dX8_manyNow_0 (by decide) ?_
  refine lv_istore_n (lv' := [(2, .int (0 : Int32)), (0, .ref q), (1, .int (nI 2))]) hx hb dX8_manyNow_1 rfl hl (by decide) rfl (fun ls hl => ?_)
  refine lv_iconst (v := 0) hx hb dX8_manyNow_2 (by decide) ?_
  refine lv_istore_n (lv' := [(3, .int (0 : Int32)), (2, .int (0 : Int32)), (0, .ref q), (1, .int (nI 2))]) hx hb dX8_manyNow_3 rfl hl (by decide) rfl (fun ls hl => ?_)
  have L1 : ∀ (r k : Nat) (H : Heap) (locs : List Loc) (ls : Array Slot), k + r = 16 → lv_has ls 4 [(3, .int (nI k)), (2, .int (0 : Int32)), (0, .ref q), (1, .int (nI 2))] → va_P D vwCl (rl lo n w) H → va_S (fun q : Nat => lo ≤ q) s.heap H locs → W p l e (headSpec wsX8_manyNow ({ frames := 1, cells := 0, slots := 0, locals := 22 })).room s m (([.ref q, .int (nI 2)] : List Value).toArray) below meth c H locs 0 0 (MQ below (QiW D lo n w 0) (([.ref q, .int (nI 2)] : List Value).toArray) s 0 0 (fun q : Nat => lo ≤ q)) (F0 m 4 ls []) := by
    intro r
    induction r with
    | zero =>
      intro k H locs ls hk hl hP hS
      have e9 : k = 16 := by omega
      subst k
      refine lv_iload_n hx hb dX8_manyNow_4 rfl (lv_at hl 0 rfl) ?_
      refine lv_bipush (v := 16) hx hb dX8_manyNow_5 (by decide) ?_
      refine lv_icmp_ge (tgt := 91) hx hb dX8_manyNow_7 (by decide) (fun _ => ?_) (fun h => absurd ((br_le (show (16 : Int32) = nI 16 from rfl) (show (nI 16) = nI 16 from rfl) (by omega) (by omega)).mpr (by omega)) h)
      refine lv_iload_n hx hb dX8_manyNow_91 rfl (lv_at hl 3 rfl) ?_
      refine lv_tableIn (tgt := 184) (off := 92) hx hb dX8_manyNow_92 (by decide) (by decide) (by decide) (by decide) ?_
      refine lv_iload_n hx hb dX8_manyNow_184 rfl (lv_at hl 1 rfl) ?_
      exact W.iret (v := (0 : Int32)) hx hb hr (fun tE ht hW => ⟨⟨(0 : Int32), (), rfl, rfl, x_at ht hP⟩, hS.F ht⟩) hS.2.2 dX8_manyNow_185
    | succ r ih =>
      intro k H locs ls hk hl hP hS
      refine lv_iload_n hx hb dX8_manyNow_4 rfl (lv_at hl 0 rfl) ?_
      refine lv_bipush (v := 16) hx hb dX8_manyNow_5 (by decide) ?_
      refine lv_icmp_ge (tgt := 91) hx hb dX8_manyNow_7 (by decide) (fun h => absurd h (fun h9 => absurd ((br_le (show (16 : Int32) = nI 16 from rfl) (show (nI k) = nI k from rfl) (by omega) (by omega)).mp h9) (by omega))) (fun _ => ?_)
      refine lv_iload_n hx hb dX8_manyNow_10 rfl (lv_at hl 1 rfl) ?_
      refine lv_iload_n hx hb dX8_manyNow_11 rfl (lv_at hl 3 rfl) ?_
      refine lv_iconst (v := 2) hx hb dX8_manyNow_12 (by decide) ?_
      refine lv_iconst (v := 4) hx hb dX8_manyNow_13 (by decide) ?_
      refine x_calli (va_runS (As := [.int (nI 2), .int (2 : Int32), .int (4 : Int32)]) (rest := [.int (0 : Int32)]) ⟨hx, hb, hml, hown, hts⟩ (c_X8_in l D cy lo n w (nI 2) (2 : Int32) (4 : Int32)) (va_cwS 3 hts gX8_manyNow_X8_in rfl rfl rfl (by decide +kernel) ⟨Nat.le_of_ble_eq_true rfl, Nat.le_of_ble_eq_true rfl⟩) (preS hP hK) rfl rfl hl.1 rfl (lv_room (Nat.le_of_ble_eq_true rfl)) dX8_manyNow_14 ⟨Nat.le_of_ble_eq_true rfl, Nat.le_of_ble_eq_true rfl⟩) hS (fun H locs hP hS => ?_)
      refine x_top (v' := (1 : Int32)) (if_pos (by decide)) ?_
      refine lv_if_eq (tgt := 38) hx hb dX8_manyNow_17 (by decide) (fun h => absurd h (by decide)) (fun _ => ?_)
      refine lv_aload_n hx hb dX8_manyNow_20 rfl (lv_at hl 2 rfl) ?_
      refine x_get (ref := RX8) (C := RX8) (T := TX8) (N := 8) (ci := 8) (v := .ref (q + 1)) hx hb hts iX8 hown hK.1 hP (by omega) (by omega) hM.self rfl 1 (by decide) (hts (.fieldLink RX8 10 "PoreFieldModel" "field" "LPoreFieldModel$Field;") (by decide +kernel)) (fun _ h9 => h9) rfl dX8_manyNow_21 ?_
      refine x_get (ref := RX7) (C := RX7) (T := TX7) (N := 14) (ci := 7) (v := .ref ((q + 1) + 2)) hx hb hts iX7 hown hK.1 hP (by omega) (by omega) hF.self rfl 1 (by decide) (hts (.fieldLink RX8 50 "PoreFieldModel$Field" "has" "[I") (by decide +kernel)) (fun _ h9 => h9) rfl dX8_manyNow_24 ?_
      refine lv_iconst (v := 3) hx hb dX8_manyNow_27 (by decide) ?_
      refine lv_iload_n hx hb dX8_manyNow_28 rfl (lv_at hl 0 rfl) ?_
      refine lv_imul hx hb dX8_manyNow_29 ?_
      refine x_top (v' := (nI (3 * k))) (nI_m3 _) ?_
      refine lv_iload_n hx hb dX8_manyNow_30 rfl (lv_at hl 3 rfl) ?_
      refine lv_iadd hx hb dX8_manyNow_31 ?_
      refine x_top (v' := (nI (3 * k + 2))) (nI_add _ _) ?_
      refine lv_iconst (v := 2) hx hb dX8_manyNow_32 (by decide) ?_
      refine lv_isub hx hb dX8_manyNow_33 ?_
      refine x_top (v' := (nI (3 * k + 0))) (nI_sb (b := 2) (by omega)) ?_
      obtain ⟨d1, g1, q1⟩ := hF.has
      refine x_iald hx hb hK.1 hP (by omega) (by omega) 0 g1 rfl (cl_of_nI (i := 3 * k + 0) rfl (by omega)) (vp_in_of_nI (i := 3 * k + 0) rfl (by omega) (by omega)) dX8_manyNow_34 ?_
      refine x_top (v' := (0 : Int32)) (q1 _ (by omega)) ?_
      refine lv_goto (tgt := 83) hx hb dX8_manyNow_35 (by decide) ?_
      refine lv_iadd hx hb dX8_manyNow_83 ?_
      refine x_top (v' := 0) (by decide) ?_
      refine lv_istore_n (lv' := [(2, .int (0 : Int32)), (3, .int (nI k)), (0, .ref q), (1, .int (nI 2))]) hx hb dX8_manyNow_84 rfl hl (by decide) rfl (fun ls hl => ?_)
      refine lv_iinc (v := (nI (k + 1))) (lv' := [(3, .int (nI (k + 1))), (2, .int (0 : Int32)), (0, .ref q), (1, .int (nI 2))]) hx hb dX8_manyNow_85 hl (k := 1) rfl (nI_1 _) (by decide) rfl (fun ls hl => ?_)
      refine lv_goto (tgt := 4) hx hb dX8_manyNow_88 (by decide) ?_
      exact ih (k + 1) _ _ _ (by omega) (lv_sub hl [0, 1, 2, 3] rfl) hP hS
  exact L1 16 0 _ _ _ (by omega) (lv_sub hl [0, 1, 2, 3] rfl) hP hS

set_option maxRecDepth 100000 in
set_option maxHeartbeats 1000000 in
/-- manyNow, 3 -/
theorem c_X8_manyNow_3 (l : Launch) (D : va_G) (cy : Nat → ClassId) (lo n : Nat) (w : Nat → va_E) (q : Nat) (h1 : lo ≤ q) (h2 : q + 22 ≤ lo + n) (th : Int32) (hM : MM cy w q th 5 0 0 0) (hB : LB cy w q) (hF : FM cy w (q + 1) 0 300) : Met l yX8_manyNow wsX8_manyNow ({ frames := 1, cells := 0, slots := 0, locals := 22 }) (PcW D cy lo n w [.ref q, .int (nI 3)]) (QiW D lo n w 0) 0 0 (fun q : Nat => lo ≤ q) := by
  refine Met.ofW (cc := cX8_manyNow) (maxL := 4) (ret := (some .int)) (by decide) rfl ?_
  intro p e s m args below meth c s₁ B hml hv
  obtain ⟨rfl, hP, hK, hS⟩ := x_entry hv
  have hx := B.exec
  have hb := B.bytes
  have hr := B.returns
  have hts := atoms_spec (ws := wsX8_manyNow) B.pre
  have hown : s.vm.findClass RX8 = some m.cls := findClass_of_methodNamed B.named
  have hlocks := B.notSynchronized
  have iX7 : ∀ w ∈ u_ws RX7 TX7 14, w ∈ wsX8_manyNow := by decide +kernel
  have iX8 : ∀ w ∈ u_ws RX8 TX8 8, w ∈ wsX8_manyNow := by decide +kernel
  have hl := lv_entry ([.ref q, .int (nI 3)]) (n := 4) (Nat.le_of_ble_eq_true rfl)
  rw [lg_entry_eq]
  generalize (lg_sl ([.ref q, .int (nI 3)]) ++ List.replicate (4 - (lg_sl ([.ref q, .int (nI 3)])).length) Slot.unset).toArray = ls at hl ⊢
  have hl : lv_has ls 4 [(0, .ref q), (1, .int (nI 3))] := hl
  refine lv_iconst (v := 0) hx hb dX8_manyNow_0 (by decide) ?_
  refine lv_istore_n (lv' := [(2, .int (0 : Int32)), (0, .ref q), (1, .int (nI 3))]) hx hb dX8_manyNow_1 rfl hl (by decide) rfl (fun ls hl => ?_)
  refine lv_iconst (v := 0) hx hb dX8_manyNow_2 (by decide) ?_
  refine lv_istore_n (lv' := [(3, .int (0 : Int32)), (2, .int (0 : Int32)), (0, .ref q), (1, .int (nI 3))]) hx hb dX8_manyNow_3 rfl hl (by decide) rfl (fun ls hl => ?_)
  have L1 : ∀ (r k : Nat) (H : Heap) (locs : List Loc) (ls : Array Slot), k + r = 16 → lv_has ls 4 [(3, .int (nI k)), (2, .int (0 : Int32)), (0, .ref q), (1, .int (nI 3))] → va_P D vwCl (rl lo n w) H → va_S (fun q : Nat => lo ≤ q) s.heap H locs → W p l e (headSpec wsX8_manyNow ({ frames := 1, cells := 0, slots := 0, locals := 22 })).room s m (([.ref q, .int (nI 3)] : List Value).toArray) below meth c H locs 0 0 (MQ below (QiW D lo n w 0) (([.ref q, .int (nI 3)] : List Value).toArray) s 0 0 (fun q : Nat => lo ≤ q)) (F0 m 4 ls []) := by
    intro r
    induction r with
    | zero =>
      intro k H locs ls hk hl hP hS
      have e9 : k = 16 := by omega
      subst k
      refine lv_iload_n hx hb dX8_manyNow_4 rfl (lv_at hl 0 rfl) ?_
      refine lv_bipush (v := 16) hx hb dX8_manyNow_5 (by decide) ?_
      refine lv_icmp_ge (tgt := 91) hx hb dX8_manyNow_7 (by decide) (fun _ => ?_) (fun h => absurd ((br_le (show (16 : Int32) = nI 16 from rfl) (show (nI 16) = nI 16 from rfl) (by omega) (by omega)).mpr (by omega)) h)
      refine lv_iload_n hx hb dX8_manyNow_91 rfl (lv_at hl 3 rfl) ?_
      refine lv_tableIn (tgt := 184) (off := 92) hx hb dX8_manyNow_92 (by decide) (by decide) (by decide) (by decide) ?_
      refine lv_iload_n hx hb dX8_manyNow_184 rfl (lv_at hl 1 rfl) ?_
      exact W.iret (v := (0 : Int32)) hx hb hr (fun tE ht hW => ⟨⟨(0 : Int32), (), rfl, rfl, x_at ht hP⟩, hS.F ht⟩) hS.2.2 dX8_manyNow_185
    | succ r ih =>
      intro k H locs ls hk hl hP hS
      refine lv_iload_n hx hb dX8_manyNow_4 rfl (lv_at hl 0 rfl) ?_
      refine lv_bipush (v := 16) hx hb dX8_manyNow_5 (by decide) ?_
      refine lv_icmp_ge (tgt := 91) hx hb dX8_manyNow_7 (by decide) (fun h => absurd h (fun h9 => absurd ((br_le (show (16 : Int32) = nI 16 from rfl) (show (nI k) = nI k from rfl) (by omega) (by omega)).mp h9) (by omega))) (fun _ => ?_)
      refine lv_iload_n hx hb dX8_manyNow_10 rfl (lv_at hl 1 rfl) ?_
      refine lv_iload_n hx hb dX8_manyNow_11 rfl (lv_at hl 3 rfl) ?_
      refine lv_iconst (v := 2) hx hb dX8_manyNow_12 (by decide) ?_
      refine lv_iconst (v := 4) hx hb dX8_manyNow_13 (by decide) ?_
      refine x_calli (va_runS (As := [.int (nI 3), .int (2 : Int32), .int (4 : Int32)]) (rest := [.int (0 : Int32)]) ⟨hx, hb, hml, hown, hts⟩ (c_X8_in l D cy lo n w (nI 3) (2 : Int32) (4 : Int32)) (va_cwS 3 hts gX8_manyNow_X8_in rfl rfl rfl (by decide +kernel) ⟨Nat.le_of_ble_eq_true rfl, Nat.le_of_ble_eq_true rfl⟩) (preS hP hK) rfl rfl hl.1 rfl (lv_room (Nat.le_of_ble_eq_true rfl)) dX8_manyNow_14 ⟨Nat.le_of_ble_eq_true rfl, Nat.le_of_ble_eq_true rfl⟩) hS (fun H locs hP hS => ?_)
      refine x_top (v' := (1 : Int32)) (if_pos (by decide)) ?_
      refine lv_if_eq (tgt := 38) hx hb dX8_manyNow_17 (by decide) (fun h => absurd h (by decide)) (fun _ => ?_)
      refine lv_aload_n hx hb dX8_manyNow_20 rfl (lv_at hl 2 rfl) ?_
      refine x_get (ref := RX8) (C := RX8) (T := TX8) (N := 8) (ci := 8) (v := .ref (q + 1)) hx hb hts iX8 hown hK.1 hP (by omega) (by omega) hM.self rfl 1 (by decide) (hts (.fieldLink RX8 10 "PoreFieldModel" "field" "LPoreFieldModel$Field;") (by decide +kernel)) (fun _ h9 => h9) rfl dX8_manyNow_21 ?_
      refine x_get (ref := RX7) (C := RX7) (T := TX7) (N := 14) (ci := 7) (v := .ref ((q + 1) + 2)) hx hb hts iX7 hown hK.1 hP (by omega) (by omega) hF.self rfl 1 (by decide) (hts (.fieldLink RX8 50 "PoreFieldModel$Field" "has" "[I") (by decide +kernel)) (fun _ h9 => h9) rfl dX8_manyNow_24 ?_
      refine lv_iconst (v := 3) hx hb dX8_manyNow_27 (by decide) ?_
      refine lv_iload_n hx hb dX8_manyNow_28 rfl (lv_at hl 0 rfl) ?_
      refine lv_imul hx hb dX8_manyNow_29 ?_
      refine x_top (v' := (nI (3 * k))) (nI_m3 _) ?_
      refine lv_iload_n hx hb dX8_manyNow_30 rfl (lv_at hl 3 rfl) ?_
      refine lv_iadd hx hb dX8_manyNow_31 ?_
      refine x_top (v' := (nI (3 * k + 3))) (nI_add _ _) ?_
      refine lv_iconst (v := 2) hx hb dX8_manyNow_32 (by decide) ?_
      refine lv_isub hx hb dX8_manyNow_33 ?_
      refine x_top (v' := (nI (3 * k + 1))) (nI_sb (b := 2) (by omega)) ?_
      obtain ⟨d1, g1, q1⟩ := hF.has
      refine x_iald hx hb hK.1 hP (by omega) (by omega) 0 g1 rfl (cl_of_nI (i := 3 * k + 1) rfl (by omega)) (vp_in_of_nI (i := 3 * k + 1) rfl (by omega) (by omega)) dX8_manyNow_34 ?_
      refine x_top (v' := (0 : Int32)) (q1 _ (by omega)) ?_
      refine lv_goto (tgt := 83) hx hb dX8_manyNow_35 (by decide) ?_
      refine lv_iadd hx hb dX8_manyNow_83 ?_
      refine x_top (v' := 0) (by decide) ?_
      refine lv_istore_n (lv' := [(2, .int (0 : Int32)), (3, .int (nI k)), (0, .ref q), (1, .int (nI 3))]) hx hb dX8_manyNow_84 rfl hl (by decide) rfl (fun ls hl => ?_)
      refine lv_iinc (v := (nI (k + 1))) (lv' := [(3, .int (nI (k + 1))), (2, .int (0 : Int32)), (0, .ref q), (1, .int (nI 3))]) hx hb dX8_manyNow_85 hl (k := 1) rfl (nI_1 _) (by decide) rfl (fun ls hl => ?_)
      refine lv_goto (tgt := 4) hx hb dX8_manyNow_88 (by decide) ?_
      exact ih (k + 1) _ _ _ (by omega) (lv_sub hl [0, 1, 2, 3] rfl) hP hS
  exact L1 16 0 _ _ _ (by omega) (lv_sub hl [0, 1, 2, 3] rfl) hP hS

set_option maxRecDepth 100000 in
set_option maxHeartbeats 1000000 in
/-- manyNow, 4 -/
theorem c_X8_manyNow_4 (l : Launch) (D : va_G) (cy : Nat → ClassId) (lo n : Nat) (w : Nat → va_E) (q : Nat) (h1 : lo ≤ q) (h2 : q + 22 ≤ lo + n) (th : Int32) (hM : MM cy w q th 5 0 0 0) (hB : LB cy w q) (hF : FM cy w (q + 1) 0 300) : Met l yX8_manyNow wsX8_manyNow ({ frames := 1, cells := 0, slots := 0, locals := 22 }) (PcW D cy lo n w [.ref q, .int (nI 4)]) (QiW D lo n w 0) 0 0 (fun q : Nat => lo ≤ q) := by
  refine Met.ofW (cc := cX8_manyNow) (maxL := 4) (ret := (some .int)) (by decide) rfl ?_
  intro p e s m args below meth c s₁ B hml hv
  obtain ⟨rfl, hP, hK, hS⟩ := x_entry hv
  have hx := B.exec
  have hb := B.bytes
  have hr := B.returns
  have hts := atoms_spec (ws := wsX8_manyNow) B.pre
  have hown : s.vm.findClass RX8 = some m.cls := findClass_of_methodNamed B.named
  have hlocks := B.notSynchronized
  have iX7 : ∀ w ∈ u_ws RX7 TX7 14, w ∈ wsX8_manyNow := by decide +kernel
  have iX8 : ∀ w ∈ u_ws RX8 TX8 8, w ∈ wsX8_manyNow := by decide +kernel
  have hl := lv_entry ([.ref q, .int (nI 4)]) (n := 4) (Nat.le_of_ble_eq_true rfl)
  rw [lg_entry_eq]
  generalize (lg_sl ([.ref q, .int (nI 4)]) ++ List.replicate (4 - (lg_sl ([.ref q, .int (nI 4)])).length) Slot.unset).toArray = ls at hl ⊢
  have hl : lv_has ls 4 [(0, .ref q), (1, .int (nI 4))] := hl
  refine lv_iconst (v := 0) hx hb dX8_manyNow_0 (by decide) ?_
  refine lv_istore_n (lv' := [(2, .int (0 : Int32)), (0, .ref q), (1, .int (nI 4))]) hx hb dX8_manyNow_1 rfl hl (by decide) rfl (fun ls hl => ?_)
  refine lv_iconst (v := 0) hx hb dX8_manyNow_2 (by decide) ?_
  refine lv_istore_n (lv' := [(3, .int (0 : Int32)), (2, .int (0 : Int32)), (0, .ref q), (1, .int (nI 4))]) hx hb dX8_manyNow_3 rfl hl (by decide) rfl (fun ls hl => ?_)
  have L1 : ∀ (r k : Nat) (H : Heap) (locs : List Loc) (ls : Array Slot), k + r = 16 → lv_has ls 4 [(3, .int (nI k)), (2, .int (0 : Int32)), (0, .ref q), (1, .int (nI 4))] → va_P D vwCl (rl lo n w) H → va_S (fun q : Nat => lo ≤ q) s.heap H locs → W p l e (headSpec wsX8_manyNow ({ frames := 1, cells := 0, slots := 0, locals := 22 })).room s m (([.ref q, .int (nI 4)] : List Value).toArray) below meth c H locs 0 0 (MQ below (QiW D lo n w 0) (([.ref q, .int (nI 4)] : List Value).toArray) s 0 0 (fun q : Nat => lo ≤ q)) (F0 m 4 ls []) := by
    intro r
    induction r with
    | zero =>
      intro k H locs ls hk hl hP hS
      have e9 : k = 16 := by omega
      subst k
      refine lv_iload_n hx hb dX8_manyNow_4 rfl (lv_at hl 0 rfl) ?_
      refine lv_bipush (v := 16) hx hb dX8_manyNow_5 (by decide) ?_
      refine lv_icmp_ge (tgt := 91) hx hb dX8_manyNow_7 (by decide) (fun _ => ?_) (fun h => absurd ((br_le (show (16 : Int32) = nI 16 from rfl) (show (nI 16) = nI 16 from rfl) (by omega) (by omega)).mpr (by omega)) h)
      refine lv_iload_n hx hb dX8_manyNow_91 rfl (lv_at hl 3 rfl) ?_
      refine lv_tableIn (tgt := 184) (off := 92) hx hb dX8_manyNow_92 (by decide) (by decide) (by decide) (by decide) ?_
      refine lv_iload_n hx hb dX8_manyNow_184 rfl (lv_at hl 1 rfl) ?_
      exact W.iret (v := (0 : Int32)) hx hb hr (fun tE ht hW => ⟨⟨(0 : Int32), (), rfl, rfl, x_at ht hP⟩, hS.F ht⟩) hS.2.2 dX8_manyNow_185
    | succ r ih =>
      intro k H locs ls hk hl hP hS
      refine lv_iload_n hx hb dX8_manyNow_4 rfl (lv_at hl 0 rfl) ?_
      refine lv_bipush (v := 16) hx hb dX8_manyNow_5 (by decide) ?_
      refine lv_icmp_ge (tgt := 91) hx hb dX8_manyNow_7 (by decide) (fun h => absurd h (fun h9 => absurd ((br_le (show (16 : Int32) = nI 16 from rfl) (show (nI k) = nI k from rfl) (by omega) (by omega)).mp h9) (by omega))) (fun _ => ?_)
      refine lv_iload_n hx hb dX8_manyNow_10 rfl (lv_at hl 1 rfl) ?_
      refine lv_iload_n hx hb dX8_manyNow_11 rfl (lv_at hl 3 rfl) ?_
      refine lv_iconst (v := 2) hx hb dX8_manyNow_12 (by decide) ?_
      refine lv_iconst (v := 4) hx hb dX8_manyNow_13 (by decide) ?_
      refine x_calli (va_runS (As := [.int (nI 4), .int (2 : Int32), .int (4 : Int32)]) (rest := [.int (0 : Int32)]) ⟨hx, hb, hml, hown, hts⟩ (c_X8_in l D cy lo n w (nI 4) (2 : Int32) (4 : Int32)) (va_cwS 3 hts gX8_manyNow_X8_in rfl rfl rfl (by decide +kernel) ⟨Nat.le_of_ble_eq_true rfl, Nat.le_of_ble_eq_true rfl⟩) (preS hP hK) rfl rfl hl.1 rfl (lv_room (Nat.le_of_ble_eq_true rfl)) dX8_manyNow_14 ⟨Nat.le_of_ble_eq_true rfl, Nat.le_of_ble_eq_true rfl⟩) hS (fun H locs hP hS => ?_)
      refine x_top (v' := (1 : Int32)) (if_pos (by decide)) ?_
      refine lv_if_eq (tgt := 38) hx hb dX8_manyNow_17 (by decide) (fun h => absurd h (by decide)) (fun _ => ?_)
      refine lv_aload_n hx hb dX8_manyNow_20 rfl (lv_at hl 2 rfl) ?_
      refine x_get (ref := RX8) (C := RX8) (T := TX8) (N := 8) (ci := 8) (v := .ref (q + 1)) hx hb hts iX8 hown hK.1 hP (by omega) (by omega) hM.self rfl 1 (by decide) (hts (.fieldLink RX8 10 "PoreFieldModel" "field" "LPoreFieldModel$Field;") (by decide +kernel)) (fun _ h9 => h9) rfl dX8_manyNow_21 ?_
      refine x_get (ref := RX7) (C := RX7) (T := TX7) (N := 14) (ci := 7) (v := .ref ((q + 1) + 2)) hx hb hts iX7 hown hK.1 hP (by omega) (by omega) hF.self rfl 1 (by decide) (hts (.fieldLink RX8 50 "PoreFieldModel$Field" "has" "[I") (by decide +kernel)) (fun _ h9 => h9) rfl dX8_manyNow_24 ?_
      refine lv_iconst (v := 3) hx hb dX8_manyNow_27 (by decide) ?_
      refine lv_iload_n hx hb dX8_manyNow_28 rfl (lv_at hl 0 rfl) ?_
      refine lv_imul hx hb dX8_manyNow_29 ?_
      refine x_top (v' := (nI (3 * k))) (nI_m3 _) ?_
      refine lv_iload_n hx hb dX8_manyNow_30 rfl (lv_at hl 3 rfl) ?_
      refine lv_iadd hx hb dX8_manyNow_31 ?_
      refine x_top (v' := (nI (3 * k + 4))) (nI_add _ _) ?_
      refine lv_iconst (v := 2) hx hb dX8_manyNow_32 (by decide) ?_
      refine lv_isub hx hb dX8_manyNow_33 ?_
      refine x_top (v' := (nI (3 * k + 2))) (nI_sb (b := 2) (by omega)) ?_
      obtain ⟨d1, g1, q1⟩ := hF.has
      refine x_iald hx hb hK.1 hP (by omega) (by omega) 0 g1 rfl (cl_of_nI (i := 3 * k + 2) rfl (by omega)) (vp_in_of_nI (i := 3 * k + 2) rfl (by omega) (by omega)) dX8_manyNow_34 ?_
      refine x_top (v' := (0 : Int32)) (q1 _ (by omega)) ?_
      refine lv_goto (tgt := 83) hx hb dX8_manyNow_35 (by decide) ?_
      refine lv_iadd hx hb dX8_manyNow_83 ?_
      refine x_top (v' := 0) (by decide) ?_
      refine lv_istore_n (lv' := [(2, .int (0 : Int32)), (3, .int (nI k)), (0, .ref q), (1, .int (nI 4))]) hx hb dX8_manyNow_84 rfl hl (by decide) rfl (fun ls hl => ?_)
      refine lv_iinc (v := (nI (k + 1))) (lv' := [(3, .int (nI (k + 1))), (2, .int (0 : Int32)), (0, .ref q), (1, .int (nI 4))]) hx hb dX8_manyNow_85 hl (k := 1) rfl (nI_1 _) (by decide) rfl (fun ls hl => ?_)
      refine lv_goto (tgt := 4) hx hb dX8_manyNow_88 (by decide) ?_
      exact ih (k + 1) _ _ _ (by omega) (lv_sub hl [0, 1, 2, 3] rfl) hP hS
  exact L1 16 0 _ _ _ (by omega) (lv_sub hl [0, 1, 2, 3] rfl) hP hS

set_option maxRecDepth 100000 in
set_option maxHeartbeats 1000000 in
/-- manyNow, 5 -/
theorem c_X8_manyNow_5 (l : Launch) (D : va_G) (cy : Nat → ClassId) (lo n : Nat) (w : Nat → va_E) (q : Nat) (h1 : lo ≤ q) (h2 : q + 22 ≤ lo + n) (th : Int32) (hM : MM cy w q th 5 0 0 0) (hB : LB cy w q) (hF : FM cy w (q + 1) 0 300) : Met l yX8_manyNow wsX8_manyNow ({ frames := 1, cells := 0, slots := 0, locals := 22 }) (PcW D cy lo n w [.ref q, .int (nI 5)]) (QiW D lo n w 0) 0 0 (fun q : Nat => lo ≤ q) := by
  refine Met.ofW (cc := cX8_manyNow) (maxL := 4) (ret := (some .int)) (by decide) rfl ?_
  intro p e s m args below meth c s₁ B hml hv
  obtain ⟨rfl, hP, hK, hS⟩ := x_entry hv
  have hx := B.exec
  have hb := B.bytes
  have hr := B.returns
  have hts := atoms_spec (ws := wsX8_manyNow) B.pre
  have hown : s.vm.findClass RX8 = some m.cls := findClass_of_methodNamed B.named
  have hlocks := B.notSynchronized
  have iX7 : ∀ w ∈ u_ws RX7 TX7 14, w ∈ wsX8_manyNow := by decide +kernel
  have iX8 : ∀ w ∈ u_ws RX8 TX8 8, w ∈ wsX8_manyNow := by decide +kernel
  have hl := lv_entry ([.ref q, .int (nI 5)]) (n := 4) (Nat.le_of_ble_eq_true rfl)
  rw [lg_entry_eq]
  generalize (lg_sl ([.ref q, .int (nI 5)]) ++ List.replicate (4 - (lg_sl ([.ref q, .int (nI 5)])).length) Slot.unset).toArray = ls at hl ⊢
  have hl : lv_has ls 4 [(0, .ref q), (1, .int (nI 5))] := hl
  refine lv_iconst (v := 0) hx hb dX8_manyNow_0 (by decide) ?_
  refine lv_istore_n (lv' := [(2, .int (0 : Int32)), (0, .ref q), (1, .int (nI 5))]) hx hb dX8_manyNow_1 rfl hl (by decide) rfl (fun ls hl => ?_)
  refine lv_iconst (v := 0) hx hb dX8_manyNow_2 (by decide) ?_
  refine lv_istore_n (lv' := [(3, .int (0 : Int32)), (2, .int (0 : Int32)), (0, .ref q), (1, .int (nI 5))]) hx hb dX8_manyNow_3 rfl hl (by decide) rfl (fun ls hl => ?_)
  have L1 : ∀ (r k : Nat) (H : Heap) (locs : List Loc) (ls : Array Slot), k + r = 16 → lv_has ls 4 [(3, .int (nI k)), (2, .int (0 : Int32)), (0, .ref q), (1, .int (nI 5))] → va_P D vwCl (rl lo n w) H → va_S (fun q : Nat => lo ≤ q) s.heap H locs → W p l e (headSpec wsX8_manyNow ({ frames := 1, cells := 0, slots := 0, locals := 22 })).room s m (([.ref q, .int (nI 5)] : List Value).toArray) below meth c H locs 0 0 (MQ below (QiW D lo n w 0) (([.ref q, .int (nI 5)] : List Value).toArray) s 0 0 (fun q : Nat => lo ≤ q)) (F0 m 4 ls []) := by
    intro r
    induction r with
    | zero =>
      intro k H locs ls hk hl hP hS
      have e9 : k = 16 := by omega
      subst k
      refine lv_iload_n hx hb dX8_manyNow_4 rfl (lv_at hl 0 rfl) ?_
      refine lv_bipush (v := 16) hx hb dX8_manyNow_5 (by decide) ?_
      refine lv_icmp_ge (tgt := 91) hx hb dX8_manyNow_7 (by decide) (fun _ => ?_) (fun h => absurd ((br_le (show (16 : Int32) = nI 16 from rfl) (show (nI 16) = nI 16 from rfl) (by omega) (by omega)).mpr (by omega)) h)
      refine lv_iload_n hx hb dX8_manyNow_91 rfl (lv_at hl 3 rfl) ?_
      refine lv_tableIn (tgt := 210) (off := 118) hx hb dX8_manyNow_92 (by decide) (by decide) (by decide) (by decide) ?_
      refine lv_aload_n hx hb dX8_manyNow_210 rfl (lv_at hl 2 rfl) ?_
      refine x_get (ref := RX8) (C := RX8) (T := TX8) (N := 8) (ci := 8) (v := .ref (q + 1)) hx hb hts iX8 hown hK.1 hP (by omega) (by omega) hM.self rfl 1 (by decide) (hts (.fieldLink RX8 10 "PoreFieldModel" "field" "LPoreFieldModel$Field;") (by decide +kernel)) (fun _ h9 => h9) rfl dX8_manyNow_211 ?_
      refine x_get (ref := RX7) (C := RX7) (T := TX7) (N := 14) (ci := 7) (v := .ref ((q + 1) + 13)) hx hb hts iX7 hown hK.1 hP (by omega) (by omega) hF.self rfl 6 (by decide) (hts (.fieldLink RX8 118 "PoreFieldModel$Field" "sums" "[I") (by decide +kernel)) (fun _ h9 => h9) rfl dX8_manyNow_214 ?_
      refine lv_iload_n hx hb dX8_manyNow_217 rfl (lv_at hl 3 rfl) ?_
      refine lv_bipush (v := 8) hx hb dX8_manyNow_218 (by decide) ?_
      refine lv_icmp_ge (tgt := 229) hx hb dX8_manyNow_220 (by decide) (fun h => absurd h (by decide)) (fun _ => ?_)
      refine lv_iload_n hx hb dX8_manyNow_223 rfl (lv_at hl 3 rfl) ?_
      refine lv_iconst (v := 5) hx hb dX8_manyNow_224 (by decide) ?_
      refine lv_isub hx hb dX8_manyNow_225 ?_
      refine x_top (v' := 0) (by decide) ?_
      refine lv_goto (tgt := 233) hx hb dX8_manyNow_226 (by decide) ?_
      obtain ⟨d1, g1, q1⟩ := hF.sums
      refine x_iald hx hb hK.1 hP (by omega) (by omega) 0 g1 rfl (cl_of_nI (i := 0) rfl (by omega)) (vp_in_of_nI (i := 0) rfl (by omega) (by omega)) dX8_manyNow_233 ?_
      refine x_top (v' := (0 : Int32)) (q1 _ (by omega)) ?_
      exact W.iret (v := (0 : Int32)) hx hb hr (fun tE ht hW => ⟨⟨(0 : Int32), (), rfl, rfl, x_at ht hP⟩, hS.F ht⟩) hS.2.2 dX8_manyNow_234
    | succ r ih =>
      intro k H locs ls hk hl hP hS
      refine lv_iload_n hx hb dX8_manyNow_4 rfl (lv_at hl 0 rfl) ?_
      refine lv_bipush (v := 16) hx hb dX8_manyNow_5 (by decide) ?_
      refine lv_icmp_ge (tgt := 91) hx hb dX8_manyNow_7 (by decide) (fun h => absurd h (fun h9 => absurd ((br_le (show (16 : Int32) = nI 16 from rfl) (show (nI k) = nI k from rfl) (by omega) (by omega)).mp h9) (by omega))) (fun _ => ?_)
      refine lv_iload_n hx hb dX8_manyNow_10 rfl (lv_at hl 1 rfl) ?_
      refine lv_iload_n hx hb dX8_manyNow_11 rfl (lv_at hl 3 rfl) ?_
      refine lv_iconst (v := 2) hx hb dX8_manyNow_12 (by decide) ?_
      refine lv_iconst (v := 4) hx hb dX8_manyNow_13 (by decide) ?_
      refine x_calli (va_runS (As := [.int (nI 5), .int (2 : Int32), .int (4 : Int32)]) (rest := [.int (0 : Int32)]) ⟨hx, hb, hml, hown, hts⟩ (c_X8_in l D cy lo n w (nI 5) (2 : Int32) (4 : Int32)) (va_cwS 3 hts gX8_manyNow_X8_in rfl rfl rfl (by decide +kernel) ⟨Nat.le_of_ble_eq_true rfl, Nat.le_of_ble_eq_true rfl⟩) (preS hP hK) rfl rfl hl.1 rfl (lv_room (Nat.le_of_ble_eq_true rfl)) dX8_manyNow_14 ⟨Nat.le_of_ble_eq_true rfl, Nat.le_of_ble_eq_true rfl⟩) hS (fun H locs hP hS => ?_)
      refine x_top (v' := (0 : Int32)) (if_neg (by decide)) ?_
      refine lv_if_eq (tgt := 38) hx hb dX8_manyNow_17 (by decide) (fun _ => ?_) (fun h => absurd (by decide) h)
      refine lv_iload_n hx hb dX8_manyNow_38 rfl (lv_at hl 3 rfl) ?_
      refine lv_bipush (v := 13) hx hb dX8_manyNow_39 (by decide) ?_
      refine lv_icmp_ne (tgt := 82) hx hb dX8_manyNow_41 (by decide) (fun _ => ?_) (fun h => absurd h (by decide))
      refine lv_iconst (v := 0) hx hb dX8_manyNow_82 (by decide) ?_
      refine lv_iadd hx hb dX8_manyNow_83 ?_
      refine x_top (v' := 0) (by decide) ?_
      refine lv_istore_n (lv' := [(2, .int (0 : Int32)), (3, .int (nI k)), (0, .ref q), (1, .int (nI 5))]) hx hb dX8_manyNow_84 rfl hl (by decide) rfl (fun ls hl => ?_)
      refine lv_iinc (v := (nI (k + 1))) (lv' := [(3, .int (nI (k + 1))), (2, .int (0 : Int32)), (0, .ref q), (1, .int (nI 5))]) hx hb dX8_manyNow_85 hl (k := 1) rfl (nI_1 _) (by decide) rfl (fun ls hl => ?_)
      refine lv_goto (tgt := 4) hx hb dX8_manyNow_88 (by decide) ?_
      exact ih (k + 1) _ _ _ (by omega) (lv_sub hl [0, 1, 2, 3] rfl) hP hS
  exact L1 16 0 _ _ _ (by omega) (lv_sub hl [0, 1, 2, 3] rfl) hP hS

set_option maxRecDepth 100000 in
set_option maxHeartbeats 1000000 in
/-- manyNow, 6 -/
theorem c_X8_manyNow_6 (l : Launch) (D : va_G) (cy : Nat → ClassId) (lo n : Nat) (w : Nat → va_E) (q : Nat) (h1 : lo ≤ q) (h2 : q + 22 ≤ lo + n) (th : Int32) (hM : MM cy w q th 5 0 0 0) (hB : LB cy w q) (hF : FM cy w (q + 1) 0 300) : Met l yX8_manyNow wsX8_manyNow ({ frames := 1, cells := 0, slots := 0, locals := 22 }) (PcW D cy lo n w [.ref q, .int (nI 6)]) (QiW D lo n w 0) 0 0 (fun q : Nat => lo ≤ q) := by
  refine Met.ofW (cc := cX8_manyNow) (maxL := 4) (ret := (some .int)) (by decide) rfl ?_
  intro p e s m args below meth c s₁ B hml hv
  obtain ⟨rfl, hP, hK, hS⟩ := x_entry hv
  have hx := B.exec
  have hb := B.bytes
  have hr := B.returns
  have hts := atoms_spec (ws := wsX8_manyNow) B.pre
  have hown : s.vm.findClass RX8 = some m.cls := findClass_of_methodNamed B.named
  have hlocks := B.notSynchronized
  have iX7 : ∀ w ∈ u_ws RX7 TX7 14, w ∈ wsX8_manyNow := by decide +kernel
  have iX8 : ∀ w ∈ u_ws RX8 TX8 8, w ∈ wsX8_manyNow := by decide +kernel
  have hl := lv_entry ([.ref q, .int (nI 6)]) (n := 4) (Nat.le_of_ble_eq_true rfl)
  rw [lg_entry_eq]
  generalize (lg_sl ([.ref q, .int (nI 6)]) ++ List.replicate (4 - (lg_sl ([.ref q, .int (nI 6)])).length) Slot.unset).toArray = ls at hl ⊢
  have hl : lv_has ls 4 [(0, .ref q), (1, .int (nI 6))] := hl
  refine lv_iconst (v := 0) hx hb dX8_manyNow_0 (by decide) ?_
  refine lv_istore_n (lv' := [(2, .int (0 : Int32)), (0, .ref q), (1, .int (nI 6))]) hx hb dX8_manyNow_1 rfl hl (by decide) rfl (fun ls hl => ?_)
  refine lv_iconst (v := 0) hx hb dX8_manyNow_2 (by decide) ?_
  refine lv_istore_n (lv' := [(3, .int (0 : Int32)), (2, .int (0 : Int32)), (0, .ref q), (1, .int (nI 6))]) hx hb dX8_manyNow_3 rfl hl (by decide) rfl (fun ls hl => ?_)
  have L1 : ∀ (r k : Nat) (H : Heap) (locs : List Loc) (ls : Array Slot), k + r = 16 → lv_has ls 4 [(3, .int (nI k)), (2, .int (0 : Int32)), (0, .ref q), (1, .int (nI 6))] → va_P D vwCl (rl lo n w) H → va_S (fun q : Nat => lo ≤ q) s.heap H locs → W p l e (headSpec wsX8_manyNow ({ frames := 1, cells := 0, slots := 0, locals := 22 })).room s m (([.ref q, .int (nI 6)] : List Value).toArray) below meth c H locs 0 0 (MQ below (QiW D lo n w 0) (([.ref q, .int (nI 6)] : List Value).toArray) s 0 0 (fun q : Nat => lo ≤ q)) (F0 m 4 ls []) := by
    intro r
    induction r with
    | zero =>
      intro k H locs ls hk hl hP hS
      have e9 : k = 16 := by omega
      subst k
      refine lv_iload_n hx hb dX8_manyNow_4 rfl (lv_at hl 0 rfl) ?_
      refine lv_bipush (v := 16) hx hb dX8_manyNow_5 (by decide) ?_
      refine lv_icmp_ge (tgt := 91) hx hb dX8_manyNow_7 (by decide) (fun _ => ?_) (fun h => absurd ((br_le (show (16 : Int32) = nI 16 from rfl) (show (nI 16) = nI 16 from rfl) (by omega) (by omega)).mpr (by omega)) h)
      refine lv_iload_n hx hb dX8_manyNow_91 rfl (lv_at hl 3 rfl) ?_
      refine lv_tableIn (tgt := 210) (off := 118) hx hb dX8_manyNow_92 (by decide) (by decide) (by decide) (by decide) ?_
      refine lv_aload_n hx hb dX8_manyNow_210 rfl (lv_at hl 2 rfl) ?_
      refine x_get (ref := RX8) (C := RX8) (T := TX8) (N := 8) (ci := 8) (v := .ref (q + 1)) hx hb hts iX8 hown hK.1 hP (by omega) (by omega) hM.self rfl 1 (by decide) (hts (.fieldLink RX8 10 "PoreFieldModel" "field" "LPoreFieldModel$Field;") (by decide +kernel)) (fun _ h9 => h9) rfl dX8_manyNow_211 ?_
      refine x_get (ref := RX7) (C := RX7) (T := TX7) (N := 14) (ci := 7) (v := .ref ((q + 1) + 13)) hx hb hts iX7 hown hK.1 hP (by omega) (by omega) hF.self rfl 6 (by decide) (hts (.fieldLink RX8 118 "PoreFieldModel$Field" "sums" "[I") (by decide +kernel)) (fun _ h9 => h9) rfl dX8_manyNow_214 ?_
      refine lv_iload_n hx hb dX8_manyNow_217 rfl (lv_at hl 3 rfl) ?_
      refine lv_bipush (v := 8) hx hb dX8_manyNow_218 (by decide) ?_
      refine lv_icmp_ge (tgt := 229) hx hb dX8_manyNow_220 (by decide) (fun h => absurd h (by decide)) (fun _ => ?_)
      refine lv_iload_n hx hb dX8_manyNow_223 rfl (lv_at hl 3 rfl) ?_
      refine lv_iconst (v := 5) hx hb dX8_manyNow_224 (by decide) ?_
      refine lv_isub hx hb dX8_manyNow_225 ?_
      refine x_top (v' := 1) (by decide) ?_
      refine lv_goto (tgt := 233) hx hb dX8_manyNow_226 (by decide) ?_
      obtain ⟨d1, g1, q1⟩ := hF.sums
      refine x_iald hx hb hK.1 hP (by omega) (by omega) 0 g1 rfl (cl_of_nI (i := 1) rfl (by omega)) (vp_in_of_nI (i := 1) rfl (by omega) (by omega)) dX8_manyNow_233 ?_
      refine x_top (v' := (0 : Int32)) (q1 _ (by omega)) ?_
      exact W.iret (v := (0 : Int32)) hx hb hr (fun tE ht hW => ⟨⟨(0 : Int32), (), rfl, rfl, x_at ht hP⟩, hS.F ht⟩) hS.2.2 dX8_manyNow_234
    | succ r ih =>
      intro k H locs ls hk hl hP hS
      refine lv_iload_n hx hb dX8_manyNow_4 rfl (lv_at hl 0 rfl) ?_
      refine lv_bipush (v := 16) hx hb dX8_manyNow_5 (by decide) ?_
      refine lv_icmp_ge (tgt := 91) hx hb dX8_manyNow_7 (by decide) (fun h => absurd h (fun h9 => absurd ((br_le (show (16 : Int32) = nI 16 from rfl) (show (nI k) = nI k from rfl) (by omega) (by omega)).mp h9) (by omega))) (fun _ => ?_)
      refine lv_iload_n hx hb dX8_manyNow_10 rfl (lv_at hl 1 rfl) ?_
      refine lv_iload_n hx hb dX8_manyNow_11 rfl (lv_at hl 3 rfl) ?_
      refine lv_iconst (v := 2) hx hb dX8_manyNow_12 (by decide) ?_
      refine lv_iconst (v := 4) hx hb dX8_manyNow_13 (by decide) ?_
      refine x_calli (va_runS (As := [.int (nI 6), .int (2 : Int32), .int (4 : Int32)]) (rest := [.int (0 : Int32)]) ⟨hx, hb, hml, hown, hts⟩ (c_X8_in l D cy lo n w (nI 6) (2 : Int32) (4 : Int32)) (va_cwS 3 hts gX8_manyNow_X8_in rfl rfl rfl (by decide +kernel) ⟨Nat.le_of_ble_eq_true rfl, Nat.le_of_ble_eq_true rfl⟩) (preS hP hK) rfl rfl hl.1 rfl (lv_room (Nat.le_of_ble_eq_true rfl)) dX8_manyNow_14 ⟨Nat.le_of_ble_eq_true rfl, Nat.le_of_ble_eq_true rfl⟩) hS (fun H locs hP hS => ?_)
      refine x_top (v' := (0 : Int32)) (if_neg (by decide)) ?_
      refine lv_if_eq (tgt := 38) hx hb dX8_manyNow_17 (by decide) (fun _ => ?_) (fun h => absurd (by decide) h)
      refine lv_iload_n hx hb dX8_manyNow_38 rfl (lv_at hl 3 rfl) ?_
      refine lv_bipush (v := 13) hx hb dX8_manyNow_39 (by decide) ?_
      refine lv_icmp_ne (tgt := 82) hx hb dX8_manyNow_41 (by decide) (fun _ => ?_) (fun h => absurd h (by decide))
      refine lv_iconst (v := 0) hx hb dX8_manyNow_82 (by decide) ?_
      refine lv_iadd hx hb dX8_manyNow_83 ?_
      refine x_top (v' := 0) (by decide) ?_
      refine lv_istore_n (lv' := [(2, .int (0 : Int32)), (3, .int (nI k)), (0, .ref q), (1, .int (nI 6))]) hx hb dX8_manyNow_84 rfl hl (by decide) rfl (fun ls hl => ?_)
      refine lv_iinc (v := (nI (k + 1))) (lv' := [(3, .int (nI (k + 1))), (2, .int (0 : Int32)), (0, .ref q), (1, .int (nI 6))]) hx hb dX8_manyNow_85 hl (k := 1) rfl (nI_1 _) (by decide) rfl (fun ls hl => ?_)
      refine lv_goto (tgt := 4) hx hb dX8_manyNow_88 (by decide) ?_
      exact ih (k + 1) _ _ _ (by omega) (lv_sub hl [0, 1, 2, 3] rfl) hP hS
  exact L1 16 0 _ _ _ (by omega) (lv_sub hl [0, 1, 2, 3] rfl) hP hS

set_option maxRecDepth 100000 in
set_option maxHeartbeats 1000000 in
/-- manyNow, 7 -/
theorem c_X8_manyNow_7 (l : Launch) (D : va_G) (cy : Nat → ClassId) (lo n : Nat) (w : Nat → va_E) (q : Nat) (h1 : lo ≤ q) (h2 : q + 22 ≤ lo + n) (th : Int32) (hM : MM cy w q th 5 0 0 0) (hB : LB cy w q) (hF : FM cy w (q + 1) 0 300) : Met l yX8_manyNow wsX8_manyNow ({ frames := 1, cells := 0, slots := 0, locals := 22 }) (PcW D cy lo n w [.ref q, .int (nI 7)]) (QiW D lo n w 0) 0 0 (fun q : Nat => lo ≤ q) := by
  refine Met.ofW (cc := cX8_manyNow) (maxL := 4) (ret := (some .int)) (by decide) rfl ?_
  intro p e s m args below meth c s₁ B hml hv
  obtain ⟨rfl, hP, hK, hS⟩ := x_entry hv
  have hx := B.exec
  have hb := B.bytes
  have hr := B.returns
  have hts := atoms_spec (ws := wsX8_manyNow) B.pre
  have hown : s.vm.findClass RX8 = some m.cls := findClass_of_methodNamed B.named
  have hlocks := B.notSynchronized
  have iX7 : ∀ w ∈ u_ws RX7 TX7 14, w ∈ wsX8_manyNow := by decide +kernel
  have iX8 : ∀ w ∈ u_ws RX8 TX8 8, w ∈ wsX8_manyNow := by decide +kernel
  have hl := lv_entry ([.ref q, .int (nI 7)]) (n := 4) (Nat.le_of_ble_eq_true rfl)
  rw [lg_entry_eq]
  generalize (lg_sl ([.ref q, .int (nI 7)]) ++ List.replicate (4 - (lg_sl ([.ref q, .int (nI 7)])).length) Slot.unset).toArray = ls at hl ⊢
  have hl : lv_has ls 4 [(0, .ref q), (1, .int (nI 7))] := hl
  refine lv_iconst (v := 0) hx hb dX8_manyNow_0 (by decide) ?_
  refine lv_istore_n (lv' := [(2, .int (0 : Int32)), (0, .ref q), (1, .int (nI 7))]) hx hb dX8_manyNow_1 rfl hl (by decide) rfl (fun ls hl => ?_)
  refine lv_iconst (v := 0) hx hb dX8_manyNow_2 (by decide) ?_
  refine lv_istore_n (lv' := [(3, .int (0 : Int32)), (2, .int (0 : Int32)), (0, .ref q), (1, .int (nI 7))]) hx hb dX8_manyNow_3 rfl hl (by decide) rfl (fun ls hl => ?_)
  have L1 : ∀ (r k : Nat) (H : Heap) (locs : List Loc) (ls : Array Slot), k + r = 16 → lv_has ls 4 [(3, .int (nI k)), (2, .int (0 : Int32)), (0, .ref q), (1, .int (nI 7))] → va_P D vwCl (rl lo n w) H → va_S (fun q : Nat => lo ≤ q) s.heap H locs → W p l e (headSpec wsX8_manyNow ({ frames := 1, cells := 0, slots := 0, locals := 22 })).room s m (([.ref q, .int (nI 7)] : List Value).toArray) below meth c H locs 0 0 (MQ below (QiW D lo n w 0) (([.ref q, .int (nI 7)] : List Value).toArray) s 0 0 (fun q : Nat => lo ≤ q)) (F0 m 4 ls []) := by
    intro r
    induction r with
    | zero =>
      intro k H locs ls hk hl hP hS
      have e9 : k = 16 := by omega
      subst k
      refine lv_iload_n hx hb dX8_manyNow_4 rfl (lv_at hl 0 rfl) ?_
      refine lv_bipush (v := 16) hx hb dX8_manyNow_5 (by decide) ?_
      refine lv_icmp_ge (tgt := 91) hx hb dX8_manyNow_7 (by decide) (fun _ => ?_) (fun h => absurd ((br_le (show (16 : Int32) = nI 16 from rfl) (show (nI 16) = nI 16 from rfl) (by omega) (by omega)).mpr (by omega)) h)
      refine lv_iload_n hx hb dX8_manyNow_91 rfl (lv_at hl 3 rfl) ?_
      refine lv_tableIn (tgt := 210) (off := 118) hx hb dX8_manyNow_92 (by decide) (by decide) (by decide) (by decide) ?_
      refine lv_aload_n hx hb dX8_manyNow_210 rfl (lv_at hl 2 rfl) ?_
      refine x_get (ref := RX8) (C := RX8) (T := TX8) (N := 8) (ci := 8) (v := .ref (q + 1)) hx hb hts iX8 hown hK.1 hP (by omega) (by omega) hM.self rfl 1 (by decide) (hts (.fieldLink RX8 10 "PoreFieldModel" "field" "LPoreFieldModel$Field;") (by decide +kernel)) (fun _ h9 => h9) rfl dX8_manyNow_211 ?_
      refine x_get (ref := RX7) (C := RX7) (T := TX7) (N := 14) (ci := 7) (v := .ref ((q + 1) + 13)) hx hb hts iX7 hown hK.1 hP (by omega) (by omega) hF.self rfl 6 (by decide) (hts (.fieldLink RX8 118 "PoreFieldModel$Field" "sums" "[I") (by decide +kernel)) (fun _ h9 => h9) rfl dX8_manyNow_214 ?_
      refine lv_iload_n hx hb dX8_manyNow_217 rfl (lv_at hl 3 rfl) ?_
      refine lv_bipush (v := 8) hx hb dX8_manyNow_218 (by decide) ?_
      refine lv_icmp_ge (tgt := 229) hx hb dX8_manyNow_220 (by decide) (fun h => absurd h (by decide)) (fun _ => ?_)
      refine lv_iload_n hx hb dX8_manyNow_223 rfl (lv_at hl 3 rfl) ?_
      refine lv_iconst (v := 5) hx hb dX8_manyNow_224 (by decide) ?_
      refine lv_isub hx hb dX8_manyNow_225 ?_
      refine x_top (v' := 2) (by decide) ?_
      refine lv_goto (tgt := 233) hx hb dX8_manyNow_226 (by decide) ?_
      obtain ⟨d1, g1, q1⟩ := hF.sums
      refine x_iald hx hb hK.1 hP (by omega) (by omega) 0 g1 rfl (cl_of_nI (i := 2) rfl (by omega)) (vp_in_of_nI (i := 2) rfl (by omega) (by omega)) dX8_manyNow_233 ?_
      refine x_top (v' := (0 : Int32)) (q1 _ (by omega)) ?_
      exact W.iret (v := (0 : Int32)) hx hb hr (fun tE ht hW => ⟨⟨(0 : Int32), (), rfl, rfl, x_at ht hP⟩, hS.F ht⟩) hS.2.2 dX8_manyNow_234
    | succ r ih =>
      intro k H locs ls hk hl hP hS
      refine lv_iload_n hx hb dX8_manyNow_4 rfl (lv_at hl 0 rfl) ?_
      refine lv_bipush (v := 16) hx hb dX8_manyNow_5 (by decide) ?_
      refine lv_icmp_ge (tgt := 91) hx hb dX8_manyNow_7 (by decide) (fun h => absurd h (fun h9 => absurd ((br_le (show (16 : Int32) = nI 16 from rfl) (show (nI k) = nI k from rfl) (by omega) (by omega)).mp h9) (by omega))) (fun _ => ?_)
      refine lv_iload_n hx hb dX8_manyNow_10 rfl (lv_at hl 1 rfl) ?_
      refine lv_iload_n hx hb dX8_manyNow_11 rfl (lv_at hl 3 rfl) ?_
      refine lv_iconst (v := 2) hx hb dX8_manyNow_12 (by decide) ?_
      refine lv_iconst (v := 4) hx hb dX8_manyNow_13 (by decide) ?_
      refine x_calli (va_runS (As := [.int (nI 7), .int (2 : Int32), .int (4 : Int32)]) (rest := [.int (0 : Int32)]) ⟨hx, hb, hml, hown, hts⟩ (c_X8_in l D cy lo n w (nI 7) (2 : Int32) (4 : Int32)) (va_cwS 3 hts gX8_manyNow_X8_in rfl rfl rfl (by decide +kernel) ⟨Nat.le_of_ble_eq_true rfl, Nat.le_of_ble_eq_true rfl⟩) (preS hP hK) rfl rfl hl.1 rfl (lv_room (Nat.le_of_ble_eq_true rfl)) dX8_manyNow_14 ⟨Nat.le_of_ble_eq_true rfl, Nat.le_of_ble_eq_true rfl⟩) hS (fun H locs hP hS => ?_)
      refine x_top (v' := (0 : Int32)) (if_neg (by decide)) ?_
      refine lv_if_eq (tgt := 38) hx hb dX8_manyNow_17 (by decide) (fun _ => ?_) (fun h => absurd (by decide) h)
      refine lv_iload_n hx hb dX8_manyNow_38 rfl (lv_at hl 3 rfl) ?_
      refine lv_bipush (v := 13) hx hb dX8_manyNow_39 (by decide) ?_
      refine lv_icmp_ne (tgt := 82) hx hb dX8_manyNow_41 (by decide) (fun _ => ?_) (fun h => absurd h (by decide))
      refine lv_iconst (v := 0) hx hb dX8_manyNow_82 (by decide) ?_
      refine lv_iadd hx hb dX8_manyNow_83 ?_
      refine x_top (v' := 0) (by decide) ?_
      refine lv_istore_n (lv' := [(2, .int (0 : Int32)), (3, .int (nI k)), (0, .ref q), (1, .int (nI 7))]) hx hb dX8_manyNow_84 rfl hl (by decide) rfl (fun ls hl => ?_)
      refine lv_iinc (v := (nI (k + 1))) (lv' := [(3, .int (nI (k + 1))), (2, .int (0 : Int32)), (0, .ref q), (1, .int (nI 7))]) hx hb dX8_manyNow_85 hl (k := 1) rfl (nI_1 _) (by decide) rfl (fun ls hl => ?_)
      refine lv_goto (tgt := 4) hx hb dX8_manyNow_88 (by decide) ?_
      exact ih (k + 1) _ _ _ (by omega) (lv_sub hl [0, 1, 2, 3] rfl) hP hS
  exact L1 16 0 _ _ _ (by omega) (lv_sub hl [0, 1, 2, 3] rfl) hP hS

set_option maxRecDepth 100000 in
set_option maxHeartbeats 1000000 in
/-- manyNow, 8 -/
theorem c_X8_manyNow_8 (l : Launch) (D : va_G) (cy : Nat → ClassId) (lo n : Nat) (w : Nat → va_E) (q : Nat) (h1 : lo ≤ q) (h2 : q + 22 ≤ lo + n) (th : Int32) (hM : MM cy w q th 5 0 0 0) (hB : LB cy w q) (hF : FM cy w (q + 1) 0 300) : Met l yX8_manyNow wsX8_manyNow ({ frames := 1, cells := 0, slots := 0, locals := 22 }) (PcW D cy lo n w [.ref q, .int (nI 8)]) (QiW D lo n w 0) 0 0 (fun q : Nat => lo ≤ q) := by
  refine Met.ofW (cc := cX8_manyNow) (maxL := 4) (ret := (some .int)) (by decide) rfl ?_
  intro p e s m args below meth c s₁ B hml hv
  obtain ⟨rfl, hP, hK, hS⟩ := x_entry hv
  have hx := B.exec
  have hb := B.bytes
  have hr := B.returns
  have hts := atoms_spec (ws := wsX8_manyNow) B.pre
  have hown : s.vm.findClass RX8 = some m.cls := findClass_of_methodNamed B.named
  have hlocks := B.notSynchronized
  have iX7 : ∀ w ∈ u_ws RX7 TX7 14, w ∈ wsX8_manyNow := by decide +kernel
  have iX8 : ∀ w ∈ u_ws RX8 TX8 8, w ∈ wsX8_manyNow := by decide +kernel
  have hl := lv_entry ([.ref q, .int (nI 8)]) (n := 4) (Nat.le_of_ble_eq_true rfl)
  rw [lg_entry_eq]
  generalize (lg_sl ([.ref q, .int (nI 8)]) ++ List.replicate (4 - (lg_sl ([.ref q, .int (nI 8)])).length) Slot.unset).toArray = ls at hl ⊢
  have hl : lv_has ls 4 [(0, .ref q), (1, .int (nI 8))] := hl
  refine lv_iconst (v := 0) hx hb dX8_manyNow_0 (by decide) ?_
  refine lv_istore_n (lv' := [(2, .int (0 : Int32)), (0, .ref q), (1, .int (nI 8))]) hx hb dX8_manyNow_1 rfl hl (by decide) rfl (fun ls hl => ?_)
  refine lv_iconst (v := 0) hx hb dX8_manyNow_2 (by decide) ?_
  refine lv_istore_n (lv' := [(3, .int (0 : Int32)), (2, .int (0 : Int32)), (0, .ref q), (1, .int (nI 8))]) hx hb dX8_manyNow_3 rfl hl (by decide) rfl (fun ls hl => ?_)
  have L1 : ∀ (r k : Nat) (H : Heap) (locs : List Loc) (ls : Array Slot), k + r = 16 → lv_has ls 4 [(3, .int (nI k)), (2, .int (0 : Int32)), (0, .ref q), (1, .int (nI 8))] → va_P D vwCl (rl lo n w) H → va_S (fun q : Nat => lo ≤ q) s.heap H locs → W p l e (headSpec wsX8_manyNow ({ frames := 1, cells := 0, slots := 0, locals := 22 })).room s m (([.ref q, .int (nI 8)] : List Value).toArray) below meth c H locs 0 0 (MQ below (QiW D lo n w 0) (([.ref q, .int (nI 8)] : List Value).toArray) s 0 0 (fun q : Nat => lo ≤ q)) (F0 m 4 ls []) := by
    intro r
    induction r with
    | zero =>
      intro k H locs ls hk hl hP hS
      have e9 : k = 16 := by omega
      subst k
      refine lv_iload_n hx hb dX8_manyNow_4 rfl (lv_at hl 0 rfl) ?_
      refine lv_bipush (v := 16) hx hb dX8_manyNow_5 (by decide) ?_
      refine lv_icmp_ge (tgt := 91) hx hb dX8_manyNow_7 (by decide) (fun _ => ?_) (fun h => absurd ((br_le (show (16 : Int32) = nI 16 from rfl) (show (nI 16) = nI 16 from rfl) (by omega) (by omega)).mpr (by omega)) h)
      refine lv_iload_n hx hb dX8_manyNow_91 rfl (lv_at hl 3 rfl) ?_
      refine lv_tableIn (tgt := 186) (off := 94) hx hb dX8_manyNow_92 (by decide) (by decide) (by decide) (by decide) ?_
      refine lv_aload_n hx hb dX8_manyNow_186 rfl (lv_at hl 2 rfl) ?_
      refine x_get (ref := RX8) (C := RX8) (T := TX8) (N := 8) (ci := 8) (v := .ref (q + 1)) hx hb hts iX8 hown hK.1 hP (by omega) (by omega) hM.self rfl 1 (by decide) (hts (.fieldLink RX8 10 "PoreFieldModel" "field" "LPoreFieldModel$Field;") (by decide +kernel)) (fun _ h9 => h9) rfl dX8_manyNow_187 ?_
      refine x_get (ref := RX7) (C := RX7) (T := TX7) (N := 14) (ci := 7) (v := .int (0 : Int32)) hx hb hts iX7 hown hK.1 hP (by omega) (by omega) hF.self rfl 13 (by decide) (hts (.fieldLink RX8 79 "PoreFieldModel$Field" "stored" "I") (by decide +kernel)) (fun _ h9 => h9) rfl dX8_manyNow_190 ?_
      exact W.iret (v := (0 : Int32)) hx hb hr (fun tE ht hW => ⟨⟨(0 : Int32), (), rfl, rfl, x_at ht hP⟩, hS.F ht⟩) hS.2.2 dX8_manyNow_193
    | succ r ih =>
      intro k H locs ls hk hl hP hS
      refine lv_iload_n hx hb dX8_manyNow_4 rfl (lv_at hl 0 rfl) ?_
      refine lv_bipush (v := 16) hx hb dX8_manyNow_5 (by decide) ?_
      refine lv_icmp_ge (tgt := 91) hx hb dX8_manyNow_7 (by decide) (fun h => absurd h (fun h9 => absurd ((br_le (show (16 : Int32) = nI 16 from rfl) (show (nI k) = nI k from rfl) (by omega) (by omega)).mp h9) (by omega))) (fun _ => ?_)
      refine lv_iload_n hx hb dX8_manyNow_10 rfl (lv_at hl 1 rfl) ?_
      refine lv_iload_n hx hb dX8_manyNow_11 rfl (lv_at hl 3 rfl) ?_
      refine lv_iconst (v := 2) hx hb dX8_manyNow_12 (by decide) ?_
      refine lv_iconst (v := 4) hx hb dX8_manyNow_13 (by decide) ?_
      refine x_calli (va_runS (As := [.int (nI 8), .int (2 : Int32), .int (4 : Int32)]) (rest := [.int (0 : Int32)]) ⟨hx, hb, hml, hown, hts⟩ (c_X8_in l D cy lo n w (nI 8) (2 : Int32) (4 : Int32)) (va_cwS 3 hts gX8_manyNow_X8_in rfl rfl rfl (by decide +kernel) ⟨Nat.le_of_ble_eq_true rfl, Nat.le_of_ble_eq_true rfl⟩) (preS hP hK) rfl rfl hl.1 rfl (lv_room (Nat.le_of_ble_eq_true rfl)) dX8_manyNow_14 ⟨Nat.le_of_ble_eq_true rfl, Nat.le_of_ble_eq_true rfl⟩) hS (fun H locs hP hS => ?_)
      refine x_top (v' := (0 : Int32)) (if_neg (by decide)) ?_
      refine lv_if_eq (tgt := 38) hx hb dX8_manyNow_17 (by decide) (fun _ => ?_) (fun h => absurd (by decide) h)
      refine lv_iload_n hx hb dX8_manyNow_38 rfl (lv_at hl 3 rfl) ?_
      refine lv_bipush (v := 13) hx hb dX8_manyNow_39 (by decide) ?_
      refine lv_icmp_ne (tgt := 82) hx hb dX8_manyNow_41 (by decide) (fun _ => ?_) (fun h => absurd h (by decide))
      refine lv_iconst (v := 0) hx hb dX8_manyNow_82 (by decide) ?_
      refine lv_iadd hx hb dX8_manyNow_83 ?_
      refine x_top (v' := 0) (by decide) ?_
      refine lv_istore_n (lv' := [(2, .int (0 : Int32)), (3, .int (nI k)), (0, .ref q), (1, .int (nI 8))]) hx hb dX8_manyNow_84 rfl hl (by decide) rfl (fun ls hl => ?_)
      refine lv_iinc (v := (nI (k + 1))) (lv' := [(3, .int (nI (k + 1))), (2, .int (0 : Int32)), (0, .ref q), (1, .int (nI 8))]) hx hb dX8_manyNow_85 hl (k := 1) rfl (nI_1 _) (by decide) rfl (fun ls hl => ?_)
      refine lv_goto (tgt := 4) hx hb dX8_manyNow_88 (by decide) ?_
      exact ih (k + 1) _ _ _ (by omega) (lv_sub hl [0, 1, 2, 3] rfl) hP hS
  exact L1 16 0 _ _ _ (by omega) (lv_sub hl [0, 1, 2, 3] rfl) hP hS

set_option maxRecDepth 100000 in
set_option maxHeartbeats 1000000 in
/-- manyNow, 9 -/
theorem c_X8_manyNow_9 (l : Launch) (D : va_G) (cy : Nat → ClassId) (lo n : Nat) (w : Nat → va_E) (q : Nat) (h1 : lo ≤ q) (h2 : q + 22 ≤ lo + n) (th : Int32) (hM : MM cy w q th 5 0 0 0) (hB : LB cy w q) (hF : FM cy w (q + 1) 0 300) : Met l yX8_manyNow wsX8_manyNow ({ frames := 1, cells := 0, slots := 0, locals := 22 }) (PcW D cy lo n w [.ref q, .int (nI 9)]) (QiW D lo n w 0) 0 0 (fun q : Nat => lo ≤ q) := by
  refine Met.ofW (cc := cX8_manyNow) (maxL := 4) (ret := (some .int)) (by decide) rfl ?_
  intro p e s m args below meth c s₁ B hml hv
  obtain ⟨rfl, hP, hK, hS⟩ := x_entry hv
  have hx := B.exec
  have hb := B.bytes
  have hr := B.returns
  have hts := atoms_spec (ws := wsX8_manyNow) B.pre
  have hown : s.vm.findClass RX8 = some m.cls := findClass_of_methodNamed B.named
  have hlocks := B.notSynchronized
  have iX7 : ∀ w ∈ u_ws RX7 TX7 14, w ∈ wsX8_manyNow := by decide +kernel
  have iX8 : ∀ w ∈ u_ws RX8 TX8 8, w ∈ wsX8_manyNow := by decide +kernel
  have hl := lv_entry ([.ref q, .int (nI 9)]) (n := 4) (Nat.le_of_ble_eq_true rfl)
  rw [lg_entry_eq]
  generalize (lg_sl ([.ref q, .int (nI 9)]) ++ List.replicate (4 - (lg_sl ([.ref q, .int (nI 9)])).length) Slot.unset).toArray = ls at hl ⊢
  have hl : lv_has ls 4 [(0, .ref q), (1, .int (nI 9))] := hl
  refine lv_iconst (v := 0) hx hb dX8_manyNow_0 (by decide) ?_
  refine lv_istore_n (lv' := [(2, .int (0 : Int32)), (0, .ref q), (1, .int (nI 9))]) hx hb dX8_manyNow_1 rfl hl (by decide) rfl (fun ls hl => ?_)
  refine lv_iconst (v := 0) hx hb dX8_manyNow_2 (by decide) ?_
  refine lv_istore_n (lv' := [(3, .int (0 : Int32)), (2, .int (0 : Int32)), (0, .ref q), (1, .int (nI 9))]) hx hb dX8_manyNow_3 rfl hl (by decide) rfl (fun ls hl => ?_)
  have L1 : ∀ (r k : Nat) (H : Heap) (locs : List Loc) (ls : Array Slot), k + r = 16 → lv_has ls 4 [(3, .int (nI k)), (2, .int (0 : Int32)), (0, .ref q), (1, .int (nI 9))] → va_P D vwCl (rl lo n w) H → va_S (fun q : Nat => lo ≤ q) s.heap H locs → W p l e (headSpec wsX8_manyNow ({ frames := 1, cells := 0, slots := 0, locals := 22 })).room s m (([.ref q, .int (nI 9)] : List Value).toArray) below meth c H locs 0 0 (MQ below (QiW D lo n w 0) (([.ref q, .int (nI 9)] : List Value).toArray) s 0 0 (fun q : Nat => lo ≤ q)) (F0 m 4 ls []) := by
    intro r
    induction r with
    | zero =>
      intro k H locs ls hk hl hP hS
      have e9 : k = 16 := by omega
      subst k
      refine lv_iload_n hx hb dX8_manyNow_4 rfl (lv_at hl 0 rfl) ?_
      refine lv_bipush (v := 16) hx hb dX8_manyNow_5 (by decide) ?_
      refine lv_icmp_ge (tgt := 91) hx hb dX8_manyNow_7 (by decide) (fun _ => ?_) (fun h => absurd ((br_le (show (16 : Int32) = nI 16 from rfl) (show (nI 16) = nI 16 from rfl) (by omega) (by omega)).mpr (by omega)) h)
      refine lv_iload_n hx hb dX8_manyNow_91 rfl (lv_at hl 3 rfl) ?_
      refine lv_tableIn (tgt := 210) (off := 118) hx hb dX8_manyNow_92 (by decide) (by decide) (by decide) (by decide) ?_
      refine lv_aload_n hx hb dX8_manyNow_210 rfl (lv_at hl 2 rfl) ?_
      refine x_get (ref := RX8) (C := RX8) (T := TX8) (N := 8) (ci := 8) (v := .ref (q + 1)) hx hb hts iX8 hown hK.1 hP (by omega) (by omega) hM.self rfl 1 (by decide) (hts (.fieldLink RX8 10 "PoreFieldModel" "field" "LPoreFieldModel$Field;") (by decide +kernel)) (fun _ h9 => h9) rfl dX8_manyNow_211 ?_
      refine x_get (ref := RX7) (C := RX7) (T := TX7) (N := 14) (ci := 7) (v := .ref ((q + 1) + 13)) hx hb hts iX7 hown hK.1 hP (by omega) (by omega) hF.self rfl 6 (by decide) (hts (.fieldLink RX8 118 "PoreFieldModel$Field" "sums" "[I") (by decide +kernel)) (fun _ h9 => h9) rfl dX8_manyNow_214 ?_
      refine lv_iload_n hx hb dX8_manyNow_217 rfl (lv_at hl 3 rfl) ?_
      refine lv_bipush (v := 8) hx hb dX8_manyNow_218 (by decide) ?_
      refine lv_icmp_ge (tgt := 229) hx hb dX8_manyNow_220 (by decide) (fun _ => ?_) (fun h => absurd (by decide) h)
      refine lv_iload_n hx hb dX8_manyNow_229 rfl (lv_at hl 3 rfl) ?_
      refine lv_bipush (v := 6) hx hb dX8_manyNow_230 (by decide) ?_
      refine lv_isub hx hb dX8_manyNow_232 ?_
      refine x_top (v' := 3) (by decide) ?_
      obtain ⟨d1, g1, q1⟩ := hF.sums
      refine x_iald hx hb hK.1 hP (by omega) (by omega) 0 g1 rfl (cl_of_nI (i := 3) rfl (by omega)) (vp_in_of_nI (i := 3) rfl (by omega) (by omega)) dX8_manyNow_233 ?_
      refine x_top (v' := (0 : Int32)) (q1 _ (by omega)) ?_
      exact W.iret (v := (0 : Int32)) hx hb hr (fun tE ht hW => ⟨⟨(0 : Int32), (), rfl, rfl, x_at ht hP⟩, hS.F ht⟩) hS.2.2 dX8_manyNow_234
    | succ r ih =>
      intro k H locs ls hk hl hP hS
      refine lv_iload_n hx hb dX8_manyNow_4 rfl (lv_at hl 0 rfl) ?_
      refine lv_bipush (v := 16) hx hb dX8_manyNow_5 (by decide) ?_
      refine lv_icmp_ge (tgt := 91) hx hb dX8_manyNow_7 (by decide) (fun h => absurd h (fun h9 => absurd ((br_le (show (16 : Int32) = nI 16 from rfl) (show (nI k) = nI k from rfl) (by omega) (by omega)).mp h9) (by omega))) (fun _ => ?_)
      refine lv_iload_n hx hb dX8_manyNow_10 rfl (lv_at hl 1 rfl) ?_
      refine lv_iload_n hx hb dX8_manyNow_11 rfl (lv_at hl 3 rfl) ?_
      refine lv_iconst (v := 2) hx hb dX8_manyNow_12 (by decide) ?_
      refine lv_iconst (v := 4) hx hb dX8_manyNow_13 (by decide) ?_
      refine x_calli (va_runS (As := [.int (nI 9), .int (2 : Int32), .int (4 : Int32)]) (rest := [.int (0 : Int32)]) ⟨hx, hb, hml, hown, hts⟩ (c_X8_in l D cy lo n w (nI 9) (2 : Int32) (4 : Int32)) (va_cwS 3 hts gX8_manyNow_X8_in rfl rfl rfl (by decide +kernel) ⟨Nat.le_of_ble_eq_true rfl, Nat.le_of_ble_eq_true rfl⟩) (preS hP hK) rfl rfl hl.1 rfl (lv_room (Nat.le_of_ble_eq_true rfl)) dX8_manyNow_14 ⟨Nat.le_of_ble_eq_true rfl, Nat.le_of_ble_eq_true rfl⟩) hS (fun H locs hP hS => ?_)
      refine x_top (v' := (0 : Int32)) (if_neg (by decide)) ?_
      refine lv_if_eq (tgt := 38) hx hb dX8_manyNow_17 (by decide) (fun _ => ?_) (fun h => absurd (by decide) h)
      refine lv_iload_n hx hb dX8_manyNow_38 rfl (lv_at hl 3 rfl) ?_
      refine lv_bipush (v := 13) hx hb dX8_manyNow_39 (by decide) ?_
      refine lv_icmp_ne (tgt := 82) hx hb dX8_manyNow_41 (by decide) (fun _ => ?_) (fun h => absurd h (by decide))
      refine lv_iconst (v := 0) hx hb dX8_manyNow_82 (by decide) ?_
      refine lv_iadd hx hb dX8_manyNow_83 ?_
      refine x_top (v' := 0) (by decide) ?_
      refine lv_istore_n (lv' := [(2, .int (0 : Int32)), (3, .int (nI k)), (0, .ref q), (1, .int (nI 9))]) hx hb dX8_manyNow_84 rfl hl (by decide) rfl (fun ls hl => ?_)
      refine lv_iinc (v := (nI (k + 1))) (lv' := [(3, .int (nI (k + 1))), (2, .int (0 : Int32)), (0, .ref q), (1, .int (nI 9))]) hx hb dX8_manyNow_85 hl (k := 1) rfl (nI_1 _) (by decide) rfl (fun ls hl => ?_)
      refine lv_goto (tgt := 4) hx hb dX8_manyNow_88 (by decide) ?_
      exact ih (k + 1) _ _ _ (by omega) (lv_sub hl [0, 1, 2, 3] rfl) hP hS
  exact L1 16 0 _ _ _ (by omega) (lv_sub hl [0, 1, 2, 3] rfl) hP hS

set_option maxRecDepth 100000 in
set_option maxHeartbeats 1000000 in
/-- manyNow, 10 -/
theorem c_X8_manyNow_10 (l : Launch) (D : va_G) (cy : Nat → ClassId) (lo n : Nat) (w : Nat → va_E) (q : Nat) (h1 : lo ≤ q) (h2 : q + 22 ≤ lo + n) (th : Int32) (hM : MM cy w q th 5 0 0 0) (hB : LB cy w q) (hF : FM cy w (q + 1) 0 300) : Met l yX8_manyNow wsX8_manyNow ({ frames := 1, cells := 0, slots := 0, locals := 22 }) (PcW D cy lo n w [.ref q, .int (nI 10)]) (QiW D lo n w 0) 0 0 (fun q : Nat => lo ≤ q) := by
  refine Met.ofW (cc := cX8_manyNow) (maxL := 4) (ret := (some .int)) (by decide) rfl ?_
  intro p e s m args below meth c s₁ B hml hv
  obtain ⟨rfl, hP, hK, hS⟩ := x_entry hv
  have hx := B.exec
  have hb := B.bytes
  have hr := B.returns
  have hts := atoms_spec (ws := wsX8_manyNow) B.pre
  have hown : s.vm.findClass RX8 = some m.cls := findClass_of_methodNamed B.named
  have hlocks := B.notSynchronized
  have iX7 : ∀ w ∈ u_ws RX7 TX7 14, w ∈ wsX8_manyNow := by decide +kernel
  have iX8 : ∀ w ∈ u_ws RX8 TX8 8, w ∈ wsX8_manyNow := by decide +kernel
  have hl := lv_entry ([.ref q, .int (nI 10)]) (n := 4) (Nat.le_of_ble_eq_true rfl)
  rw [lg_entry_eq]
  generalize (lg_sl ([.ref q, .int (nI 10)]) ++ List.replicate (4 - (lg_sl ([.ref q, .int (nI 10)])).length) Slot.unset).toArray = ls at hl ⊢
  have hl : lv_has ls 4 [(0, .ref q), (1, .int (nI 10))] := hl
  refine lv_iconst (v := 0) hx hb dX8_manyNow_0 (by decide) ?_
  refine lv_istore_n (lv' := [(2, .int (0 : Int32)), (0, .ref q), (1, .int (nI 10))]) hx hb dX8_manyNow_1 rfl hl (by decide) rfl (fun ls hl => ?_)
  refine lv_iconst (v := 0) hx hb dX8_manyNow_2 (by decide) ?_
  refine lv_istore_n (lv' := [(3, .int (0 : Int32)), (2, .int (0 : Int32)), (0, .ref q), (1, .int (nI 10))]) hx hb dX8_manyNow_3 rfl hl (by decide) rfl (fun ls hl => ?_)
  have L1 : ∀ (r k : Nat) (H : Heap) (locs : List Loc) (ls : Array Slot), k + r = 16 → lv_has ls 4 [(3, .int (nI k)), (2, .int (0 : Int32)), (0, .ref q), (1, .int (nI 10))] → va_P D vwCl (rl lo n w) H → va_S (fun q : Nat => lo ≤ q) s.heap H locs → W p l e (headSpec wsX8_manyNow ({ frames := 1, cells := 0, slots := 0, locals := 22 })).room s m (([.ref q, .int (nI 10)] : List Value).toArray) below meth c H locs 0 0 (MQ below (QiW D lo n w 0) (([.ref q, .int (nI 10)] : List Value).toArray) s 0 0 (fun q : Nat => lo ≤ q)) (F0 m 4 ls []) := by
    intro r
    induction r with
    | zero =>
      intro k H locs ls hk hl hP hS
      have e9 : k = 16 := by omega
      subst k
      refine lv_iload_n hx hb dX8_manyNow_4 rfl (lv_at hl 0 rfl) ?_
      refine lv_bipush (v := 16) hx hb dX8_manyNow_5 (by decide) ?_
      refine lv_icmp_ge (tgt := 91) hx hb dX8_manyNow_7 (by decide) (fun _ => ?_) (fun h => absurd ((br_le (show (16 : Int32) = nI 16 from rfl) (show (nI 16) = nI 16 from rfl) (by omega) (by omega)).mpr (by omega)) h)
      refine lv_iload_n hx hb dX8_manyNow_91 rfl (lv_at hl 3 rfl) ?_
      refine lv_tableIn (tgt := 210) (off := 118) hx hb dX8_manyNow_92 (by decide) (by decide) (by decide) (by decide) ?_
      refine lv_aload_n hx hb dX8_manyNow_210 rfl (lv_at hl 2 rfl) ?_
      refine x_get (ref := RX8) (C := RX8) (T := TX8) (N := 8) (ci := 8) (v := .ref (q + 1)) hx hb hts iX8 hown hK.1 hP (by omega) (by omega) hM.self rfl 1 (by decide) (hts (.fieldLink RX8 10 "PoreFieldModel" "field" "LPoreFieldModel$Field;") (by decide +kernel)) (fun _ h9 => h9) rfl dX8_manyNow_211 ?_
      refine x_get (ref := RX7) (C := RX7) (T := TX7) (N := 14) (ci := 7) (v := .ref ((q + 1) + 13)) hx hb hts iX7 hown hK.1 hP (by omega) (by omega) hF.self rfl 6 (by decide) (hts (.fieldLink RX8 118 "PoreFieldModel$Field" "sums" "[I") (by decide +kernel)) (fun _ h9 => h9) rfl dX8_manyNow_214 ?_
      refine lv_iload_n hx hb dX8_manyNow_217 rfl (lv_at hl 3 rfl) ?_
      refine lv_bipush (v := 8) hx hb dX8_manyNow_218 (by decide) ?_
      refine lv_icmp_ge (tgt := 229) hx hb dX8_manyNow_220 (by decide) (fun _ => ?_) (fun h => absurd (by decide) h)
      refine lv_iload_n hx hb dX8_manyNow_229 rfl (lv_at hl 3 rfl) ?_
      refine lv_bipush (v := 6) hx hb dX8_manyNow_230 (by decide) ?_
      refine lv_isub hx hb dX8_manyNow_232 ?_
      refine x_top (v' := 4) (by decide) ?_
      obtain ⟨d1, g1, q1⟩ := hF.sums
      refine x_iald hx hb hK.1 hP (by omega) (by omega) 0 g1 rfl (cl_of_nI (i := 4) rfl (by omega)) (vp_in_of_nI (i := 4) rfl (by omega) (by omega)) dX8_manyNow_233 ?_
      refine x_top (v' := (0 : Int32)) (q1 _ (by omega)) ?_
      exact W.iret (v := (0 : Int32)) hx hb hr (fun tE ht hW => ⟨⟨(0 : Int32), (), rfl, rfl, x_at ht hP⟩, hS.F ht⟩) hS.2.2 dX8_manyNow_234
    | succ r ih =>
      intro k H locs ls hk hl hP hS
      refine lv_iload_n hx hb dX8_manyNow_4 rfl (lv_at hl 0 rfl) ?_
      refine lv_bipush (v := 16) hx hb dX8_manyNow_5 (by decide) ?_
      refine lv_icmp_ge (tgt := 91) hx hb dX8_manyNow_7 (by decide) (fun h => absurd h (fun h9 => absurd ((br_le (show (16 : Int32) = nI 16 from rfl) (show (nI k) = nI k from rfl) (by omega) (by omega)).mp h9) (by omega))) (fun _ => ?_)
      refine lv_iload_n hx hb dX8_manyNow_10 rfl (lv_at hl 1 rfl) ?_
      refine lv_iload_n hx hb dX8_manyNow_11 rfl (lv_at hl 3 rfl) ?_
      refine lv_iconst (v := 2) hx hb dX8_manyNow_12 (by decide) ?_
      refine lv_iconst (v := 4) hx hb dX8_manyNow_13 (by decide) ?_
      refine x_calli (va_runS (As := [.int (nI 10), .int (2 : Int32), .int (4 : Int32)]) (rest := [.int (0 : Int32)]) ⟨hx, hb, hml, hown, hts⟩ (c_X8_in l D cy lo n w (nI 10) (2 : Int32) (4 : Int32)) (va_cwS 3 hts gX8_manyNow_X8_in rfl rfl rfl (by decide +kernel) ⟨Nat.le_of_ble_eq_true rfl, Nat.le_of_ble_eq_true rfl⟩) (preS hP hK) rfl rfl hl.1 rfl (lv_room (Nat.le_of_ble_eq_true rfl)) dX8_manyNow_14 ⟨Nat.le_of_ble_eq_true rfl, Nat.le_of_ble_eq_true rfl⟩) hS (fun H locs hP hS => ?_)
      refine x_top (v' := (0 : Int32)) (if_neg (by decide)) ?_
      refine lv_if_eq (tgt := 38) hx hb dX8_manyNow_17 (by decide) (fun _ => ?_) (fun h => absurd (by decide) h)
      refine lv_iload_n hx hb dX8_manyNow_38 rfl (lv_at hl 3 rfl) ?_
      refine lv_bipush (v := 13) hx hb dX8_manyNow_39 (by decide) ?_
      refine lv_icmp_ne (tgt := 82) hx hb dX8_manyNow_41 (by decide) (fun _ => ?_) (fun h => absurd h (by decide))
      refine lv_iconst (v := 0) hx hb dX8_manyNow_82 (by decide) ?_
      refine lv_iadd hx hb dX8_manyNow_83 ?_
      refine x_top (v' := 0) (by decide) ?_
      refine lv_istore_n (lv' := [(2, .int (0 : Int32)), (3, .int (nI k)), (0, .ref q), (1, .int (nI 10))]) hx hb dX8_manyNow_84 rfl hl (by decide) rfl (fun ls hl => ?_)
      refine lv_iinc (v := (nI (k + 1))) (lv' := [(3, .int (nI (k + 1))), (2, .int (0 : Int32)), (0, .ref q), (1, .int (nI 10))]) hx hb dX8_manyNow_85 hl (k := 1) rfl (nI_1 _) (by decide) rfl (fun ls hl => ?_)
      refine lv_goto (tgt := 4) hx hb dX8_manyNow_88 (by decide) ?_
      exact ih (k + 1) _ _ _ (by omega) (lv_sub hl [0, 1, 2, 3] rfl) hP hS
  exact L1 16 0 _ _ _ (by omega) (lv_sub hl [0, 1, 2, 3] rfl) hP hS

set_option maxRecDepth 100000 in
set_option maxHeartbeats 1000000 in
/-- manyNow, 11 -/
theorem c_X8_manyNow_11 (l : Launch) (D : va_G) (cy : Nat → ClassId) (lo n : Nat) (w : Nat → va_E) (q : Nat) (h1 : lo ≤ q) (h2 : q + 22 ≤ lo + n) (th : Int32) (hM : MM cy w q th 5 0 0 0) (hB : LB cy w q) (hF : FM cy w (q + 1) 0 300) : Met l yX8_manyNow wsX8_manyNow ({ frames := 1, cells := 0, slots := 0, locals := 22 }) (PcW D cy lo n w [.ref q, .int (nI 11)]) (QiW D lo n w 0) 0 0 (fun q : Nat => lo ≤ q) := by
  refine Met.ofW (cc := cX8_manyNow) (maxL := 4) (ret := (some .int)) (by decide) rfl ?_
  intro p e s m args below meth c s₁ B hml hv
  obtain ⟨rfl, hP, hK, hS⟩ := x_entry hv
  have hx := B.exec
  have hb := B.bytes
  have hr := B.returns
  have hts := atoms_spec (ws := wsX8_manyNow) B.pre
  have hown : s.vm.findClass RX8 = some m.cls := findClass_of_methodNamed B.named
  have hlocks := B.notSynchronized
  have iX7 : ∀ w ∈ u_ws RX7 TX7 14, w ∈ wsX8_manyNow := by decide +kernel
  have iX8 : ∀ w ∈ u_ws RX8 TX8 8, w ∈ wsX8_manyNow := by decide +kernel
  have hl := lv_entry ([.ref q, .int (nI 11)]) (n := 4) (Nat.le_of_ble_eq_true rfl)
  rw [lg_entry_eq]
  generalize (lg_sl ([.ref q, .int (nI 11)]) ++ List.replicate (4 - (lg_sl ([.ref q, .int (nI 11)])).length) Slot.unset).toArray = ls at hl ⊢
  have hl : lv_has ls 4 [(0, .ref q), (1, .int (nI 11))] := hl
  refine lv_iconst (v := 0) hx hb dX8_manyNow_0 (by decide) ?_
  refine lv_istore_n (lv' := [(2, .int (0 : Int32)), (0, .ref q), (1, .int (nI 11))]) hx hb dX8_manyNow_1 rfl hl (by decide) rfl (fun ls hl => ?_)
  refine lv_iconst (v := 0) hx hb dX8_manyNow_2 (by decide) ?_
  refine lv_istore_n (lv' := [(3, .int (0 : Int32)), (2, .int (0 : Int32)), (0, .ref q), (1, .int (nI 11))]) hx hb dX8_manyNow_3 rfl hl (by decide) rfl (fun ls hl => ?_)
  have L1 : ∀ (r k : Nat) (H : Heap) (locs : List Loc) (ls : Array Slot), k + r = 16 → lv_has ls 4 [(3, .int (nI k)), (2, .int (0 : Int32)), (0, .ref q), (1, .int (nI 11))] → va_P D vwCl (rl lo n w) H → va_S (fun q : Nat => lo ≤ q) s.heap H locs → W p l e (headSpec wsX8_manyNow ({ frames := 1, cells := 0, slots := 0, locals := 22 })).room s m (([.ref q, .int (nI 11)] : List Value).toArray) below meth c H locs 0 0 (MQ below (QiW D lo n w 0) (([.ref q, .int (nI 11)] : List Value).toArray) s 0 0 (fun q : Nat => lo ≤ q)) (F0 m 4 ls []) := by
    intro r
    induction r with
    | zero =>
      intro k H locs ls hk hl hP hS
      have e9 : k = 16 := by omega
      subst k
      refine lv_iload_n hx hb dX8_manyNow_4 rfl (lv_at hl 0 rfl) ?_
      refine lv_bipush (v := 16) hx hb dX8_manyNow_5 (by decide) ?_
      refine lv_icmp_ge (tgt := 91) hx hb dX8_manyNow_7 (by decide) (fun _ => ?_) (fun h => absurd ((br_le (show (16 : Int32) = nI 16 from rfl) (show (nI 16) = nI 16 from rfl) (by omega) (by omega)).mpr (by omega)) h)
      refine lv_iload_n hx hb dX8_manyNow_91 rfl (lv_at hl 3 rfl) ?_
      refine lv_tableIn (tgt := 210) (off := 118) hx hb dX8_manyNow_92 (by decide) (by decide) (by decide) (by decide) ?_
      refine lv_aload_n hx hb dX8_manyNow_210 rfl (lv_at hl 2 rfl) ?_
      refine x_get (ref := RX8) (C := RX8) (T := TX8) (N := 8) (ci := 8) (v := .ref (q + 1)) hx hb hts iX8 hown hK.1 hP (by omega) (by omega) hM.self rfl 1 (by decide) (hts (.fieldLink RX8 10 "PoreFieldModel" "field" "LPoreFieldModel$Field;") (by decide +kernel)) (fun _ h9 => h9) rfl dX8_manyNow_211 ?_
      refine x_get (ref := RX7) (C := RX7) (T := TX7) (N := 14) (ci := 7) (v := .ref ((q + 1) + 13)) hx hb hts iX7 hown hK.1 hP (by omega) (by omega) hF.self rfl 6 (by decide) (hts (.fieldLink RX8 118 "PoreFieldModel$Field" "sums" "[I") (by decide +kernel)) (fun _ h9 => h9) rfl dX8_manyNow_214 ?_
      refine lv_iload_n hx hb dX8_manyNow_217 rfl (lv_at hl 3 rfl) ?_
      refine lv_bipush (v := 8) hx hb dX8_manyNow_218 (by decide) ?_
      refine lv_icmp_ge (tgt := 229) hx hb dX8_manyNow_220 (by decide) (fun _ => ?_) (fun h => absurd (by decide) h)
      refine lv_iload_n hx hb dX8_manyNow_229 rfl (lv_at hl 3 rfl) ?_
      refine lv_bipush (v := 6) hx hb dX8_manyNow_230 (by decide) ?_
      refine lv_isub hx hb dX8_manyNow_232 ?_
      refine x_top (v' := 5) (by decide) ?_
      obtain ⟨d1, g1, q1⟩ := hF.sums
      refine x_iald hx hb hK.1 hP (by omega) (by omega) 0 g1 rfl (cl_of_nI (i := 5) rfl (by omega)) (vp_in_of_nI (i := 5) rfl (by omega) (by omega)) dX8_manyNow_233 ?_
      refine x_top (v' := (0 : Int32)) (q1 _ (by omega)) ?_
      exact W.iret (v := (0 : Int32)) hx hb hr (fun tE ht hW => ⟨⟨(0 : Int32), (), rfl, rfl, x_at ht hP⟩, hS.F ht⟩) hS.2.2 dX8_manyNow_234
    | succ r ih =>
      intro k H locs ls hk hl hP hS
      refine lv_iload_n hx hb dX8_manyNow_4 rfl (lv_at hl 0 rfl) ?_
      refine lv_bipush (v := 16) hx hb dX8_manyNow_5 (by decide) ?_
      refine lv_icmp_ge (tgt := 91) hx hb dX8_manyNow_7 (by decide) (fun h => absurd h (fun h9 => absurd ((br_le (show (16 : Int32) = nI 16 from rfl) (show (nI k) = nI k from rfl) (by omega) (by omega)).mp h9) (by omega))) (fun _ => ?_)
      refine lv_iload_n hx hb dX8_manyNow_10 rfl (lv_at hl 1 rfl) ?_
      refine lv_iload_n hx hb dX8_manyNow_11 rfl (lv_at hl 3 rfl) ?_
      refine lv_iconst (v := 2) hx hb dX8_manyNow_12 (by decide) ?_
      refine lv_iconst (v := 4) hx hb dX8_manyNow_13 (by decide) ?_
      refine x_calli (va_runS (As := [.int (nI 11), .int (2 : Int32), .int (4 : Int32)]) (rest := [.int (0 : Int32)]) ⟨hx, hb, hml, hown, hts⟩ (c_X8_in l D cy lo n w (nI 11) (2 : Int32) (4 : Int32)) (va_cwS 3 hts gX8_manyNow_X8_in rfl rfl rfl (by decide +kernel) ⟨Nat.le_of_ble_eq_true rfl, Nat.le_of_ble_eq_true rfl⟩) (preS hP hK) rfl rfl hl.1 rfl (lv_room (Nat.le_of_ble_eq_true rfl)) dX8_manyNow_14 ⟨Nat.le_of_ble_eq_true rfl, Nat.le_of_ble_eq_true rfl⟩) hS (fun H locs hP hS => ?_)
      refine x_top (v' := (0 : Int32)) (if_neg (by decide)) ?_
      refine lv_if_eq (tgt := 38) hx hb dX8_manyNow_17 (by decide) (fun _ => ?_) (fun h => absurd (by decide) h)
      refine lv_iload_n hx hb dX8_manyNow_38 rfl (lv_at hl 3 rfl) ?_
      refine lv_bipush (v := 13) hx hb dX8_manyNow_39 (by decide) ?_
      refine lv_icmp_ne (tgt := 82) hx hb dX8_manyNow_41 (by decide) (fun _ => ?_) (fun h => absurd h (by decide))
      refine lv_iconst (v := 0) hx hb dX8_manyNow_82 (by decide) ?_
      refine lv_iadd hx hb dX8_manyNow_83 ?_
      refine x_top (v' := 0) (by decide) ?_
      refine lv_istore_n (lv' := [(2, .int (0 : Int32)), (3, .int (nI k)), (0, .ref q), (1, .int (nI 11))]) hx hb dX8_manyNow_84 rfl hl (by decide) rfl (fun ls hl => ?_)
      refine lv_iinc (v := (nI (k + 1))) (lv' := [(3, .int (nI (k + 1))), (2, .int (0 : Int32)), (0, .ref q), (1, .int (nI 11))]) hx hb dX8_manyNow_85 hl (k := 1) rfl (nI_1 _) (by decide) rfl (fun ls hl => ?_)
      refine lv_goto (tgt := 4) hx hb dX8_manyNow_88 (by decide) ?_
      exact ih (k + 1) _ _ _ (by omega) (lv_sub hl [0, 1, 2, 3] rfl) hP hS
  exact L1 16 0 _ _ _ (by omega) (lv_sub hl [0, 1, 2, 3] rfl) hP hS

set_option maxRecDepth 100000 in
set_option maxHeartbeats 1000000 in
/-- manyNow, 12 -/
theorem c_X8_manyNow_12 (l : Launch) (D : va_G) (cy : Nat → ClassId) (lo n : Nat) (w : Nat → va_E) (q : Nat) (h1 : lo ≤ q) (h2 : q + 22 ≤ lo + n) (th : Int32) (hM : MM cy w q th 5 0 0 0) (hB : LB cy w q) (hF : FM cy w (q + 1) 0 300) : Met l yX8_manyNow wsX8_manyNow ({ frames := 1, cells := 0, slots := 0, locals := 22 }) (PcW D cy lo n w [.ref q, .int (nI 12)]) (QiW D lo n w 0) 0 0 (fun q : Nat => lo ≤ q) := by
  refine Met.ofW (cc := cX8_manyNow) (maxL := 4) (ret := (some .int)) (by decide) rfl ?_
  intro p e s m args below meth c s₁ B hml hv
  obtain ⟨rfl, hP, hK, hS⟩ := x_entry hv
  have hx := B.exec
  have hb := B.bytes
  have hr := B.returns
  have hts := atoms_spec (ws := wsX8_manyNow) B.pre
  have hown : s.vm.findClass RX8 = some m.cls := findClass_of_methodNamed B.named
  have hlocks := B.notSynchronized
  have iX7 : ∀ w ∈ u_ws RX7 TX7 14, w ∈ wsX8_manyNow := by decide +kernel
  have iX8 : ∀ w ∈ u_ws RX8 TX8 8, w ∈ wsX8_manyNow := by decide +kernel
  have hl := lv_entry ([.ref q, .int (nI 12)]) (n := 4) (Nat.le_of_ble_eq_true rfl)
  rw [lg_entry_eq]
  generalize (lg_sl ([.ref q, .int (nI 12)]) ++ List.replicate (4 - (lg_sl ([.ref q, .int (nI 12)])).length) Slot.unset).toArray = ls at hl ⊢
  have hl : lv_has ls 4 [(0, .ref q), (1, .int (nI 12))] := hl
  refine lv_iconst (v := 0) hx hb dX8_manyNow_0 (by decide) ?_
  refine lv_istore_n (lv' := [(2, .int (0 : Int32)), (0, .ref q), (1, .int (nI 12))]) hx hb dX8_manyNow_1 rfl hl (by decide) rfl (fun ls hl => ?_)
  refine lv_iconst (v := 0) hx hb dX8_manyNow_2 (by decide) ?_
  refine lv_istore_n (lv' := [(3, .int (0 : Int32)), (2, .int (0 : Int32)), (0, .ref q), (1, .int (nI 12))]) hx hb dX8_manyNow_3 rfl hl (by decide) rfl (fun ls hl => ?_)
  have L1 : ∀ (r k : Nat) (H : Heap) (locs : List Loc) (ls : Array Slot), k + r = 16 → lv_has ls 4 [(3, .int (nI k)), (2, .int (0 : Int32)), (0, .ref q), (1, .int (nI 12))] → va_P D vwCl (rl lo n w) H → va_S (fun q : Nat => lo ≤ q) s.heap H locs → W p l e (headSpec wsX8_manyNow ({ frames := 1, cells := 0, slots := 0, locals := 22 })).room s m (([.ref q, .int (nI 12)] : List Value).toArray) below meth c H locs 0 0 (MQ below (QiW D lo n w 0) (([.ref q, .int (nI 12)] : List Value).toArray) s 0 0 (fun q : Nat => lo ≤ q)) (F0 m 4 ls []) := by
    intro r
    induction r with
    | zero =>
      intro k H locs ls hk hl hP hS
      have e9 : k = 16 := by omega
      subst k
      refine lv_iload_n hx hb dX8_manyNow_4 rfl (lv_at hl 0 rfl) ?_
      refine lv_bipush (v := 16) hx hb dX8_manyNow_5 (by decide) ?_
      refine lv_icmp_ge (tgt := 91) hx hb dX8_manyNow_7 (by decide) (fun _ => ?_) (fun h => absurd ((br_le (show (16 : Int32) = nI 16 from rfl) (show (nI 16) = nI 16 from rfl) (by omega) (by omega)).mpr (by omega)) h)
      refine lv_iload_n hx hb dX8_manyNow_91 rfl (lv_at hl 3 rfl) ?_
      refine lv_tableIn (tgt := 194) (off := 102) hx hb dX8_manyNow_92 (by decide) (by decide) (by decide) (by decide) ?_
      refine lv_aload_n hx hb dX8_manyNow_194 rfl (lv_at hl 2 rfl) ?_
      refine x_get (ref := RX8) (C := RX8) (T := TX8) (N := 8) (ci := 8) (v := .ref (q + 1)) hx hb hts iX8 hown hK.1 hP (by omega) (by omega) hM.self rfl 1 (by decide) (hts (.fieldLink RX8 10 "PoreFieldModel" "field" "LPoreFieldModel$Field;") (by decide +kernel)) (fun _ h9 => h9) rfl dX8_manyNow_195 ?_
      refine x_get (ref := RX7) (C := RX7) (T := TX7) (N := 14) (ci := 7) (v := .ref ((q + 1) + 13)) hx hb hts iX7 hown hK.1 hP (by omega) (by omega) hF.self rfl 6 (by decide) (hts (.fieldLink RX8 118 "PoreFieldModel$Field" "sums" "[I") (by decide +kernel)) (fun _ h9 => h9) rfl dX8_manyNow_198 ?_
      refine lv_iconst (v := 3) hx hb dX8_manyNow_201 (by decide) ?_
      obtain ⟨d1, g1, q1⟩ := hF.sums
      refine x_iald hx hb hK.1 hP (by omega) (by omega) 0 g1 rfl (cl_of_nI (i := 3) rfl (by omega)) (vp_in_of_nI (i := 3) rfl (by omega) (by omega)) dX8_manyNow_202 ?_
      refine x_top (v' := (0 : Int32)) (q1 _ (by omega)) ?_
      refine lv_ineg hx hb dX8_manyNow_203 ?_
      refine x_top (v' := 0) (by decide) ?_
      exact W.iret (v := (0 : Int32)) hx hb hr (fun tE ht hW => ⟨⟨(0 : Int32), (), rfl, rfl, x_at ht hP⟩, hS.F ht⟩) hS.2.2 dX8_manyNow_204
    | succ r ih =>
      intro k H locs ls hk hl hP hS
      refine lv_iload_n hx hb dX8_manyNow_4 rfl (lv_at hl 0 rfl) ?_
      refine lv_bipush (v := 16) hx hb dX8_manyNow_5 (by decide) ?_
      refine lv_icmp_ge (tgt := 91) hx hb dX8_manyNow_7 (by decide) (fun h => absurd h (fun h9 => absurd ((br_le (show (16 : Int32) = nI 16 from rfl) (show (nI k) = nI k from rfl) (by omega) (by omega)).mp h9) (by omega))) (fun _ => ?_)
      refine lv_iload_n hx hb dX8_manyNow_10 rfl (lv_at hl 1 rfl) ?_
      refine lv_iload_n hx hb dX8_manyNow_11 rfl (lv_at hl 3 rfl) ?_
      refine lv_iconst (v := 2) hx hb dX8_manyNow_12 (by decide) ?_
      refine lv_iconst (v := 4) hx hb dX8_manyNow_13 (by decide) ?_
      refine x_calli (va_runS (As := [.int (nI 12), .int (2 : Int32), .int (4 : Int32)]) (rest := [.int (0 : Int32)]) ⟨hx, hb, hml, hown, hts⟩ (c_X8_in l D cy lo n w (nI 12) (2 : Int32) (4 : Int32)) (va_cwS 3 hts gX8_manyNow_X8_in rfl rfl rfl (by decide +kernel) ⟨Nat.le_of_ble_eq_true rfl, Nat.le_of_ble_eq_true rfl⟩) (preS hP hK) rfl rfl hl.1 rfl (lv_room (Nat.le_of_ble_eq_true rfl)) dX8_manyNow_14 ⟨Nat.le_of_ble_eq_true rfl, Nat.le_of_ble_eq_true rfl⟩) hS (fun H locs hP hS => ?_)
      refine x_top (v' := (0 : Int32)) (if_neg (by decide)) ?_
      refine lv_if_eq (tgt := 38) hx hb dX8_manyNow_17 (by decide) (fun _ => ?_) (fun h => absurd (by decide) h)
      refine lv_iload_n hx hb dX8_manyNow_38 rfl (lv_at hl 3 rfl) ?_
      refine lv_bipush (v := 13) hx hb dX8_manyNow_39 (by decide) ?_
      refine lv_icmp_ne (tgt := 82) hx hb dX8_manyNow_41 (by decide) (fun _ => ?_) (fun h => absurd h (by decide))
      refine lv_iconst (v := 0) hx hb dX8_manyNow_82 (by decide) ?_
      refine lv_iadd hx hb dX8_manyNow_83 ?_
      refine x_top (v' := 0) (by decide) ?_
      refine lv_istore_n (lv' := [(2, .int (0 : Int32)), (3, .int (nI k)), (0, .ref q), (1, .int (nI 12))]) hx hb dX8_manyNow_84 rfl hl (by decide) rfl (fun ls hl => ?_)
      refine lv_iinc (v := (nI (k + 1))) (lv' := [(3, .int (nI (k + 1))), (2, .int (0 : Int32)), (0, .ref q), (1, .int (nI 12))]) hx hb dX8_manyNow_85 hl (k := 1) rfl (nI_1 _) (by decide) rfl (fun ls hl => ?_)
      refine lv_goto (tgt := 4) hx hb dX8_manyNow_88 (by decide) ?_
      exact ih (k + 1) _ _ _ (by omega) (lv_sub hl [0, 1, 2, 3] rfl) hP hS
  exact L1 16 0 _ _ _ (by omega) (lv_sub hl [0, 1, 2, 3] rfl) hP hS

set_option maxRecDepth 100000 in
set_option maxHeartbeats 1000000 in
/-- manyNow, 13 -/
theorem c_X8_manyNow_13 (l : Launch) (D : va_G) (cy : Nat → ClassId) (lo n : Nat) (w : Nat → va_E) (q : Nat) (h1 : lo ≤ q) (h2 : q + 22 ≤ lo + n) (th : Int32) (hM : MM cy w q th 5 0 0 0) (hB : LB cy w q) (hF : FM cy w (q + 1) 0 300) : Met l yX8_manyNow wsX8_manyNow ({ frames := 1, cells := 0, slots := 0, locals := 22 }) (PcW D cy lo n w [.ref q, .int (nI 13)]) (QiW D lo n w 0) 0 0 (fun q : Nat => lo ≤ q) := by
  refine Met.ofW (cc := cX8_manyNow) (maxL := 4) (ret := (some .int)) (by decide) rfl ?_
  intro p e s m args below meth c s₁ B hml hv
  obtain ⟨rfl, hP, hK, hS⟩ := x_entry hv
  have hx := B.exec
  have hb := B.bytes
  have hr := B.returns
  have hts := atoms_spec (ws := wsX8_manyNow) B.pre
  have hown : s.vm.findClass RX8 = some m.cls := findClass_of_methodNamed B.named
  have hlocks := B.notSynchronized
  have iX7 : ∀ w ∈ u_ws RX7 TX7 14, w ∈ wsX8_manyNow := by decide +kernel
  have iX8 : ∀ w ∈ u_ws RX8 TX8 8, w ∈ wsX8_manyNow := by decide +kernel
  have hl := lv_entry ([.ref q, .int (nI 13)]) (n := 4) (Nat.le_of_ble_eq_true rfl)
  rw [lg_entry_eq]
  generalize (lg_sl ([.ref q, .int (nI 13)]) ++ List.replicate (4 - (lg_sl ([.ref q, .int (nI 13)])).length) Slot.unset).toArray = ls at hl ⊢
  have hl : lv_has ls 4 [(0, .ref q), (1, .int (nI 13))] := hl
  refine lv_iconst (v := 0) hx hb dX8_manyNow_0 (by decide) ?_
  refine lv_istore_n (lv' := [(2, .int (0 : Int32)), (0, .ref q), (1, .int (nI 13))]) hx hb dX8_manyNow_1 rfl hl (by decide) rfl (fun ls hl => ?_)
  refine lv_iconst (v := 0) hx hb dX8_manyNow_2 (by decide) ?_
  refine lv_istore_n (lv' := [(3, .int (0 : Int32)), (2, .int (0 : Int32)), (0, .ref q), (1, .int (nI 13))]) hx hb dX8_manyNow_3 rfl hl (by decide) rfl (fun ls hl => ?_)
  have L1 : ∀ (r k : Nat) (H : Heap) (locs : List Loc) (ls : Array Slot), k + r = 16 → lv_has ls 4 [(3, .int (nI k)), (2, .int (0 : Int32)), (0, .ref q), (1, .int (nI 13))] → va_P D vwCl (rl lo n w) H → va_S (fun q : Nat => lo ≤ q) s.heap H locs → W p l e (headSpec wsX8_manyNow ({ frames := 1, cells := 0, slots := 0, locals := 22 })).room s m (([.ref q, .int (nI 13)] : List Value).toArray) below meth c H locs 0 0 (MQ below (QiW D lo n w 0) (([.ref q, .int (nI 13)] : List Value).toArray) s 0 0 (fun q : Nat => lo ≤ q)) (F0 m 4 ls []) := by
    intro r
    induction r with
    | zero =>
      intro k H locs ls hk hl hP hS
      have e9 : k = 16 := by omega
      subst k
      refine lv_iload_n hx hb dX8_manyNow_4 rfl (lv_at hl 0 rfl) ?_
      refine lv_bipush (v := 16) hx hb dX8_manyNow_5 (by decide) ?_
      refine lv_icmp_ge (tgt := 91) hx hb dX8_manyNow_7 (by decide) (fun _ => ?_) (fun h => absurd ((br_le (show (16 : Int32) = nI 16 from rfl) (show (nI 16) = nI 16 from rfl) (by omega) (by omega)).mpr (by omega)) h)
      refine lv_iload_n hx hb dX8_manyNow_91 rfl (lv_at hl 3 rfl) ?_
      refine lv_tableIn (tgt := 184) (off := 92) hx hb dX8_manyNow_92 (by decide) (by decide) (by decide) (by decide) ?_
      refine lv_iload_n hx hb dX8_manyNow_184 rfl (lv_at hl 1 rfl) ?_
      exact W.iret (v := (0 : Int32)) hx hb hr (fun tE ht hW => ⟨⟨(0 : Int32), (), rfl, rfl, x_at ht hP⟩, hS.F ht⟩) hS.2.2 dX8_manyNow_185
    | succ r ih =>
      intro k H locs ls hk hl hP hS
      refine lv_iload_n hx hb dX8_manyNow_4 rfl (lv_at hl 0 rfl) ?_
      refine lv_bipush (v := 16) hx hb dX8_manyNow_5 (by decide) ?_
      refine lv_icmp_ge (tgt := 91) hx hb dX8_manyNow_7 (by decide) (fun h => absurd h (fun h9 => absurd ((br_le (show (16 : Int32) = nI 16 from rfl) (show (nI k) = nI k from rfl) (by omega) (by omega)).mp h9) (by omega))) (fun _ => ?_)
      refine lv_iload_n hx hb dX8_manyNow_10 rfl (lv_at hl 1 rfl) ?_
      refine lv_iload_n hx hb dX8_manyNow_11 rfl (lv_at hl 3 rfl) ?_
      refine lv_iconst (v := 2) hx hb dX8_manyNow_12 (by decide) ?_
      refine lv_iconst (v := 4) hx hb dX8_manyNow_13 (by decide) ?_
      refine x_calli (va_runS (As := [.int (nI 13), .int (2 : Int32), .int (4 : Int32)]) (rest := [.int (0 : Int32)]) ⟨hx, hb, hml, hown, hts⟩ (c_X8_in l D cy lo n w (nI 13) (2 : Int32) (4 : Int32)) (va_cwS 3 hts gX8_manyNow_X8_in rfl rfl rfl (by decide +kernel) ⟨Nat.le_of_ble_eq_true rfl, Nat.le_of_ble_eq_true rfl⟩) (preS hP hK) rfl rfl hl.1 rfl (lv_room (Nat.le_of_ble_eq_true rfl)) dX8_manyNow_14 ⟨Nat.le_of_ble_eq_true rfl, Nat.le_of_ble_eq_true rfl⟩) hS (fun H locs hP hS => ?_)
      refine x_top (v' := (0 : Int32)) (if_neg (by decide)) ?_
      refine lv_if_eq (tgt := 38) hx hb dX8_manyNow_17 (by decide) (fun _ => ?_) (fun h => absurd (by decide) h)
      refine lv_iload_n hx hb dX8_manyNow_38 rfl (lv_at hl 3 rfl) ?_
      refine lv_bipush (v := 13) hx hb dX8_manyNow_39 (by decide) ?_
      refine lv_icmp_ne (tgt := 82) hx hb dX8_manyNow_41 (by decide) (fun h => absurd (by decide) h) (fun _ => ?_)
      refine lv_aload_n hx hb dX8_manyNow_44 rfl (lv_at hl 2 rfl) ?_
      refine x_get (ref := RX8) (C := RX8) (T := TX8) (N := 8) (ci := 8) (v := .ref (q + 1)) hx hb hts iX8 hown hK.1 hP (by omega) (by omega) hM.self rfl 1 (by decide) (hts (.fieldLink RX8 10 "PoreFieldModel" "field" "LPoreFieldModel$Field;") (by decide +kernel)) (fun _ h9 => h9) rfl dX8_manyNow_45 ?_
      refine x_get (ref := RX7) (C := RX7) (T := TX7) (N := 14) (ci := 7) (v := .ref ((q + 1) + 3)) hx hb hts iX7 hown hK.1 hP (by omega) (by omega) hF.self rfl 2 (by decide) (hts (.fieldLink RX8 60 "PoreFieldModel$Field" "east" "[Z") (by decide +kernel)) (fun _ h9 => h9) rfl dX8_manyNow_48 ?_
      refine lv_iload_n hx hb dX8_manyNow_51 rfl (lv_at hl 0 rfl) ?_
      obtain ⟨d1, g1, q1⟩ := hF.east
      refine x_zald hx hb hK.1 hP (by omega) (by omega) 5 g1 rfl (cl_of_nI (i := k) rfl (by omega)) (vp_in_of_nI (i := k) rfl (by omega) (by omega)) dX8_manyNow_52 ?_
      refine x_top (v' := (0 : Int32)) (q1 _ (by omega)) ?_
      refine lv_if_eq (tgt := 60) hx hb dX8_manyNow_53 (by decide) (fun _ => ?_) (fun h => absurd (by decide) h)
      refine lv_iconst (v := 0) hx hb dX8_manyNow_60 (by decide) ?_
      refine lv_aload_n hx hb dX8_manyNow_61 rfl (lv_at hl 2 rfl) ?_
      refine x_get (ref := RX8) (C := RX8) (T := TX8) (N := 8) (ci := 8) (v := .ref (q + 1)) hx hb hts iX8 hown hK.1 hP (by omega) (by omega) hM.self rfl 1 (by decide) (hts (.fieldLink RX8 10 "PoreFieldModel" "field" "LPoreFieldModel$Field;") (by decide +kernel)) (fun _ h9 => h9) rfl dX8_manyNow_62 ?_
      refine x_get (ref := RX7) (C := RX7) (T := TX7) (N := 14) (ci := 7) (v := .ref ((q + 1) + 4)) hx hb hts iX7 hown hK.1 hP (by omega) (by omega) hF.self rfl 3 (by decide) (hts (.fieldLink RX8 64 "PoreFieldModel$Field" "south" "[Z") (by decide +kernel)) (fun _ h9 => h9) rfl dX8_manyNow_65 ?_
      refine lv_iload_n hx hb dX8_manyNow_68 rfl (lv_at hl 0 rfl) ?_
      obtain ⟨d2, g2, q2⟩ := hF.south
      refine x_zald hx hb hK.1 hP (by omega) (by omega) 5 g2 rfl (cl_of_nI (i := k) rfl (by omega)) (vp_in_of_nI (i := k) rfl (by omega) (by omega)) dX8_manyNow_69 ?_
      refine x_top (v' := (0 : Int32)) (q2 _ (by omega)) ?_
      refine lv_if_eq (tgt := 77) hx hb dX8_manyNow_70 (by decide) (fun _ => ?_) (fun h => absurd (by decide) h)
      refine lv_iconst (v := 0) hx hb dX8_manyNow_77 (by decide) ?_
      refine lv_iadd hx hb dX8_manyNow_78 ?_
      refine x_top (v' := 0) (by decide) ?_
      refine lv_goto (tgt := 83) hx hb dX8_manyNow_79 (by decide) ?_
      refine lv_iadd hx hb dX8_manyNow_83 ?_
      refine x_top (v' := 0) (by decide) ?_
      refine lv_istore_n (lv' := [(2, .int (0 : Int32)), (3, .int (nI k)), (0, .ref q), (1, .int (nI 13))]) hx hb dX8_manyNow_84 rfl hl (by decide) rfl (fun ls hl => ?_)
      refine lv_iinc (v := (nI (k + 1))) (lv' := [(3, .int (nI (k + 1))), (2, .int (0 : Int32)), (0, .ref q), (1, .int (nI 13))]) hx hb dX8_manyNow_85 hl (k := 1) rfl (nI_1 _) (by decide) rfl (fun ls hl => ?_)
      refine lv_goto (tgt := 4) hx hb dX8_manyNow_88 (by decide) ?_
      exact ih (k + 1) _ _ _ (by omega) (lv_sub hl [0, 1, 2, 3] rfl) hP hS
  exact L1 16 0 _ _ _ (by omega) (lv_sub hl [0, 1, 2, 3] rfl) hP hS

set_option maxRecDepth 100000 in
set_option maxHeartbeats 1000000 in
/-- manyNow, 14 -/
theorem c_X8_manyNow_14 (l : Launch) (D : va_G) (cy : Nat → ClassId) (lo n : Nat) (w : Nat → va_E) (q : Nat) (h1 : lo ≤ q) (h2 : q + 22 ≤ lo + n) (th : Int32) (hM : MM cy w q th 5 0 0 0) (hB : LB cy w q) (hF : FM cy w (q + 1) 0 300) : Met l yX8_manyNow wsX8_manyNow ({ frames := 1, cells := 0, slots := 0, locals := 22 }) (PcW D cy lo n w [.ref q, .int (nI 14)]) (QiW D lo n w 0) 0 0 (fun q : Nat => lo ≤ q) := by
  refine Met.ofW (cc := cX8_manyNow) (maxL := 4) (ret := (some .int)) (by decide) rfl ?_
  intro p e s m args below meth c s₁ B hml hv
  obtain ⟨rfl, hP, hK, hS⟩ := x_entry hv
  have hx := B.exec
  have hb := B.bytes
  have hr := B.returns
  have hts := atoms_spec (ws := wsX8_manyNow) B.pre
  have hown : s.vm.findClass RX8 = some m.cls := findClass_of_methodNamed B.named
  have hlocks := B.notSynchronized
  have iX8 : ∀ w ∈ u_ws RX8 TX8 8, w ∈ wsX8_manyNow := by decide +kernel
  have hl := lv_entry ([.ref q, .int (nI 14)]) (n := 4) (Nat.le_of_ble_eq_true rfl)
  rw [lg_entry_eq]
  generalize (lg_sl ([.ref q, .int (nI 14)]) ++ List.replicate (4 - (lg_sl ([.ref q, .int (nI 14)])).length) Slot.unset).toArray = ls at hl ⊢
  have hl : lv_has ls 4 [(0, .ref q), (1, .int (nI 14))] := hl
  refine lv_iconst (v := 0) hx hb dX8_manyNow_0 (by decide) ?_
  refine lv_istore_n (lv' := [(2, .int (0 : Int32)), (0, .ref q), (1, .int (nI 14))]) hx hb dX8_manyNow_1 rfl hl (by decide) rfl (fun ls hl => ?_)
  refine lv_iconst (v := 0) hx hb dX8_manyNow_2 (by decide) ?_
  refine lv_istore_n (lv' := [(3, .int (0 : Int32)), (2, .int (0 : Int32)), (0, .ref q), (1, .int (nI 14))]) hx hb dX8_manyNow_3 rfl hl (by decide) rfl (fun ls hl => ?_)
  have L1 : ∀ (r k : Nat) (H : Heap) (locs : List Loc) (ls : Array Slot), k + r = 16 → lv_has ls 4 [(3, .int (nI k)), (2, .int (0 : Int32)), (0, .ref q), (1, .int (nI 14))] → va_P D vwCl (rl lo n w) H → va_S (fun q : Nat => lo ≤ q) s.heap H locs → W p l e (headSpec wsX8_manyNow ({ frames := 1, cells := 0, slots := 0, locals := 22 })).room s m (([.ref q, .int (nI 14)] : List Value).toArray) below meth c H locs 0 0 (MQ below (QiW D lo n w 0) (([.ref q, .int (nI 14)] : List Value).toArray) s 0 0 (fun q : Nat => lo ≤ q)) (F0 m 4 ls []) := by
    intro r
    induction r with
    | zero =>
      intro k H locs ls hk hl hP hS
      have e9 : k = 16 := by omega
      subst k
      refine lv_iload_n hx hb dX8_manyNow_4 rfl (lv_at hl 0 rfl) ?_
      refine lv_bipush (v := 16) hx hb dX8_manyNow_5 (by decide) ?_
      refine lv_icmp_ge (tgt := 91) hx hb dX8_manyNow_7 (by decide) (fun _ => ?_) (fun h => absurd ((br_le (show (16 : Int32) = nI 16 from rfl) (show (nI 16) = nI 16 from rfl) (by omega) (by omega)).mpr (by omega)) h)
      refine lv_iload_n hx hb dX8_manyNow_91 rfl (lv_at hl 3 rfl) ?_
      refine lv_tableIn (tgt := 205) (off := 113) hx hb dX8_manyNow_92 (by decide) (by decide) (by decide) (by decide) ?_
      refine lv_aload_n hx hb dX8_manyNow_205 rfl (lv_at hl 2 rfl) ?_
      refine x_get (ref := RX8) (C := RX8) (T := TX8) (N := 8) (ci := 8) (v := .int (0 : Int32)) hx hb hts iX8 hown hK.1 hP (by omega) (by omega) hM.self rfl 5 (by decide) (hts (.fieldLink RX8 112 "PoreFieldModel" "books" "I") (by decide +kernel)) (fun _ h9 => h9) rfl dX8_manyNow_206 ?_
      exact W.iret (v := (0 : Int32)) hx hb hr (fun tE ht hW => ⟨⟨(0 : Int32), (), rfl, rfl, x_at ht hP⟩, hS.F ht⟩) hS.2.2 dX8_manyNow_209
    | succ r ih =>
      intro k H locs ls hk hl hP hS
      refine lv_iload_n hx hb dX8_manyNow_4 rfl (lv_at hl 0 rfl) ?_
      refine lv_bipush (v := 16) hx hb dX8_manyNow_5 (by decide) ?_
      refine lv_icmp_ge (tgt := 91) hx hb dX8_manyNow_7 (by decide) (fun h => absurd h (fun h9 => absurd ((br_le (show (16 : Int32) = nI 16 from rfl) (show (nI k) = nI k from rfl) (by omega) (by omega)).mp h9) (by omega))) (fun _ => ?_)
      refine lv_iload_n hx hb dX8_manyNow_10 rfl (lv_at hl 1 rfl) ?_
      refine lv_iload_n hx hb dX8_manyNow_11 rfl (lv_at hl 3 rfl) ?_
      refine lv_iconst (v := 2) hx hb dX8_manyNow_12 (by decide) ?_
      refine lv_iconst (v := 4) hx hb dX8_manyNow_13 (by decide) ?_
      refine x_calli (va_runS (As := [.int (nI 14), .int (2 : Int32), .int (4 : Int32)]) (rest := [.int (0 : Int32)]) ⟨hx, hb, hml, hown, hts⟩ (c_X8_in l D cy lo n w (nI 14) (2 : Int32) (4 : Int32)) (va_cwS 3 hts gX8_manyNow_X8_in rfl rfl rfl (by decide +kernel) ⟨Nat.le_of_ble_eq_true rfl, Nat.le_of_ble_eq_true rfl⟩) (preS hP hK) rfl rfl hl.1 rfl (lv_room (Nat.le_of_ble_eq_true rfl)) dX8_manyNow_14 ⟨Nat.le_of_ble_eq_true rfl, Nat.le_of_ble_eq_true rfl⟩) hS (fun H locs hP hS => ?_)
      refine x_top (v' := (0 : Int32)) (if_neg (by decide)) ?_
      refine lv_if_eq (tgt := 38) hx hb dX8_manyNow_17 (by decide) (fun _ => ?_) (fun h => absurd (by decide) h)
      refine lv_iload_n hx hb dX8_manyNow_38 rfl (lv_at hl 3 rfl) ?_
      refine lv_bipush (v := 13) hx hb dX8_manyNow_39 (by decide) ?_
      refine lv_icmp_ne (tgt := 82) hx hb dX8_manyNow_41 (by decide) (fun _ => ?_) (fun h => absurd h (by decide))
      refine lv_iconst (v := 0) hx hb dX8_manyNow_82 (by decide) ?_
      refine lv_iadd hx hb dX8_manyNow_83 ?_
      refine x_top (v' := 0) (by decide) ?_
      refine lv_istore_n (lv' := [(2, .int (0 : Int32)), (3, .int (nI k)), (0, .ref q), (1, .int (nI 14))]) hx hb dX8_manyNow_84 rfl hl (by decide) rfl (fun ls hl => ?_)
      refine lv_iinc (v := (nI (k + 1))) (lv' := [(3, .int (nI (k + 1))), (2, .int (0 : Int32)), (0, .ref q), (1, .int (nI 14))]) hx hb dX8_manyNow_85 hl (k := 1) rfl (nI_1 _) (by decide) rfl (fun ls hl => ?_)
      refine lv_goto (tgt := 4) hx hb dX8_manyNow_88 (by decide) ?_
      exact ih (k + 1) _ _ _ (by omega) (lv_sub hl [0, 1, 2, 3] rfl) hP hS
  exact L1 16 0 _ _ _ (by omega) (lv_sub hl [0, 1, 2, 3] rfl) hP hS

def r_many (x : Int32) : Int32 × Int32 := if 0 ≤ x ∧ x ≤ 14 then (0, 0) else (1, 0)
set_option maxRecDepth 100000 in
set_option maxHeartbeats 1000000 in
/-- many -/
theorem c_X8_many (l : Launch) (D : va_G) (cy : Nat → ClassId) (lo n : Nat) (w : Nat → va_E) (q : Nat) (h1 : lo ≤ q) (h2 : q + 22 ≤ lo + n) (th : Int32) (hM : MM cy w q th 5 0 0 0) (hB : LB cy w q) (hF : FM cy w (q + 1) 0 300) (x : Int32) : Met l yX8_many wsX8_many ({ frames := 2, cells := 0, slots := 0, locals := 45 }) (PcW D cy lo n w [.ref q, .int x]) (QR D lo n q w (r_many x)) 0 0 (fun q : Nat => lo ≤ q) := by
  refine Met.ofW (cc := cX8_many) (maxL := 2) (ret := (some .int)) (by decide) rfl ?_
  intro p e s m args below meth c s₁ B hml hv
  obtain ⟨rfl, hP, hK, hS⟩ := x_entry hv
  have hx := B.exec
  have hb := B.bytes
  have hr := B.returns
  have hts := atoms_spec (ws := wsX8_many) B.pre
  have hown : s.vm.findClass RX8 = some m.cls := findClass_of_methodNamed B.named
  have hlocks := B.notSynchronized
  have iX8 : ∀ w ∈ u_ws RX8 TX8 8, w ∈ wsX8_many := by decide +kernel
  have hl := lv_entry ([.ref q, .int x]) (n := 2) (Nat.le_of_ble_eq_true rfl)
  rw [lg_entry_eq]
  generalize (lg_sl ([.ref q, .int x]) ++ List.replicate (2 - (lg_sl ([.ref q, .int x])).length) Slot.unset).toArray = ls at hl ⊢
  have hl : lv_has ls 2 [(0, .ref q), (1, .int x)] := hl
  have hfr : fr q 22 w w := fr.rf
  refine lv_aload_n hx hb dX8_many_0 rfl (lv_at hl 0 rfl) ?_
  refine lv_iconst (v := 0) hx hb dX8_many_1 (by decide) ?_
  refine x_put (ty := tyX8 0) (ref := RX8) (C := RX8) (T := TX8) (N := 8) (ci := 8) (v := .int (0 : Int32)) hx hb hts iX8 tyX8 tyX8_ok nmX8 hown hK.1 hP hS (by omega) (by omega) hM.self rfl 0 (by decide) (hts (.fieldLink RX8 29 "PoreFieldModel" "thrown" "I") (by decide +kernel)) (fun _ h9 => h9) rfl (by decide +kernel) rfl rfl (Nat.le_of_ble_eq_true rfl) dX8_many_2 (fun H locs hP hS => ?_)
  refine x_gen hP (fun v1 e1 hP => ?_)
  have hF : FM cy v1 (q + 1) 0 300 := by rw [e1]; exact hF.o (by omega)
  have hM : MM cy v1 q 0 5 0 0 0 := by rw [e1]; exact hM.up_self (th' := 0) (pr' := 5) (bk' := 0) (bo' := 0) (bw' := 0)
  have hB : LB cy v1 q := by rw [e1]; exact hB.o (by omega)
  have hfr : fr q 22 w v1 := by rw [e1]; exact hfr.up (by omega) (by omega)
  refine lv_iload_n hx hb dX8_many_5 rfl (lv_at hl 1 rfl) ?_
  refine lv_iconst (v := 0) hx hb dX8_many_6 (by decide) ?_
  refine lv_bipush (v := 14) hx hb dX8_many_7 (by decide) ?_
  refine x_calli (va_runS (As := [.int x, .int (0 : Int32), .int (14 : Int32)]) (rest := []) ⟨hx, hb, hml, hown, hts⟩ (c_X8_in l D cy lo n v1 x (0 : Int32) (14 : Int32)) (va_cwS 3 hts gX8_many_X8_in rfl rfl rfl (by decide +kernel) ⟨Nat.le_of_ble_eq_true rfl, Nat.le_of_ble_eq_true rfl⟩) (preS hP hK) rfl rfl hl.1 rfl (lv_room (Nat.le_of_ble_eq_true rfl)) dX8_many_9 ⟨Nat.le_of_ble_eq_true rfl, Nat.le_of_ble_eq_true rfl⟩) hS (fun H locs hP hS => ?_)
  by_cases c_9 : (0 : Int32) ≤ x ∧ x ≤ (14 : Int32)
  · refine x_top (v' := (1 : Int32)) (if_pos c_9) ?_
    obtain ⟨xi, h_xi, e_xi⟩ := nI_of2 (n := 14) (by decide) (Int32.not_lt.mpr (Int32.le_trans (by decide) c_9.1)) c_9.2
    subst e_xi
    refine lv_if_ne (tgt := 21) hx hb dX8_many_12 (by decide) (fun _ => ?_) (fun h => absurd h (by decide))
    rcases (by omega : xi = 0 ∨ xi = 1 ∨ xi = 2 ∨ xi = 3 ∨ xi = 4 ∨ xi = 5 ∨ xi = 6 ∨ xi = 7 ∨ xi = 8 ∨ xi = 9 ∨ xi = 10 ∨ xi = 11 ∨ xi = 12 ∨ xi = 13 ∨ xi = 14) with rfl | rfl | rfl | rfl | rfl | rfl | rfl | rfl | rfl | rfl | rfl | rfl | rfl | rfl | rfl
    · refine lv_aload_n hx hb dX8_many_21 rfl (lv_at hl 0 rfl) ?_
      refine lv_iload_n hx hb dX8_many_22 rfl (lv_at hl 1 rfl) ?_
      refine x_calli (va_runV (As := [.int (nI 0)]) (rest := []) ⟨hx, hb, hml, hown, hts⟩ (c_X8_manyNow_0 l D cy lo n v1 q (by omega) (by omega) 0 hM hB hF ) (cwV 1 hts gX8_many_X8_manyNow rfl rfl rfl (by decide +kernel) ⟨Nat.le_of_ble_eq_true rfl, Nat.le_of_ble_eq_true rfl⟩) (preV hP hK (x_recv (ci := 8) (q := (RX8, TX8, 8)) hK.1 hP (by omega) (by omega) rfl hM.self)) rfl rfl hl.1 rfl (lv_room (Nat.le_of_ble_eq_true rfl)) dX8_many_23 ⟨Nat.le_of_ble_eq_true rfl, Nat.le_of_ble_eq_true rfl⟩) hS (fun H locs hP hS => ?_)
      have eS : r_many (nI 0) = (0, (0 : Int32)) := by unfold r_many; rw [if_pos c_9] <;> first | rfl | decide
      exact W.iret (v := (0 : Int32)) hx hb hr (fun tE ht hW => ⟨⟨(0 : Int32), v1, rfl, by rw [eS]; exact ⟨⟨_, hM.self⟩, fun _ => rfl, hfr⟩, x_at ht hP⟩, hS.F ht⟩) hS.2.2 dX8_many_26
    · refine lv_aload_n hx hb dX8_many_21 rfl (lv_at hl 0 rfl) ?_
      refine lv_iload_n hx hb dX8_many_22 rfl (lv_at hl 1 rfl) ?_
      refine x_calli (va_runV (As := [.int (nI 1)]) (rest := []) ⟨hx, hb, hml, hown, hts⟩ (c_X8_manyNow_1 l D cy lo n v1 q (by omega) (by omega) 0 hM hB hF ) (cwV 1 hts gX8_many_X8_manyNow rfl rfl rfl (by decide +kernel) ⟨Nat.le_of_ble_eq_true rfl, Nat.le_of_ble_eq_true rfl⟩) (preV hP hK (x_recv (ci := 8) (q := (RX8, TX8, 8)) hK.1 hP (by omega) (by omega) rfl hM.self)) rfl rfl hl.1 rfl (lv_room (Nat.le_of_ble_eq_true rfl)) dX8_many_23 ⟨Nat.le_of_ble_eq_true rfl, Nat.le_of_ble_eq_true rfl⟩) hS (fun H locs hP hS => ?_)
      have eS : r_many (nI 1) = (0, (0 : Int32)) := by unfold r_many; rw [if_pos c_9] <;> first | rfl | decide
      exact W.iret (v := (0 : Int32)) hx hb hr (fun tE ht hW => ⟨⟨(0 : Int32), v1, rfl, by rw [eS]; exact ⟨⟨_, hM.self⟩, fun _ => rfl, hfr⟩, x_at ht hP⟩, hS.F ht⟩) hS.2.2 dX8_many_26
    · refine lv_aload_n hx hb dX8_many_21 rfl (lv_at hl 0 rfl) ?_
      refine lv_iload_n hx hb dX8_many_22 rfl (lv_at hl 1 rfl) ?_
      refine x_calli (va_runV (As := [.int (nI 2)]) (rest := []) ⟨hx, hb, hml, hown, hts⟩ (c_X8_manyNow_2 l D cy lo n v1 q (by omega) (by omega) 0 hM hB hF ) (cwV 1 hts gX8_many_X8_manyNow rfl rfl rfl (by decide +kernel) ⟨Nat.le_of_ble_eq_true rfl, Nat.le_of_ble_eq_true rfl⟩) (preV hP hK (x_recv (ci := 8) (q := (RX8, TX8, 8)) hK.1 hP (by omega) (by omega) rfl hM.self)) rfl rfl hl.1 rfl (lv_room (Nat.le_of_ble_eq_true rfl)) dX8_many_23 ⟨Nat.le_of_ble_eq_true rfl, Nat.le_of_ble_eq_true rfl⟩) hS (fun H locs hP hS => ?_)
      have eS : r_many (nI 2) = (0, (0 : Int32)) := by unfold r_many; rw [if_pos c_9] <;> first | rfl | decide
      exact W.iret (v := (0 : Int32)) hx hb hr (fun tE ht hW => ⟨⟨(0 : Int32), v1, rfl, by rw [eS]; exact ⟨⟨_, hM.self⟩, fun _ => rfl, hfr⟩, x_at ht hP⟩, hS.F ht⟩) hS.2.2 dX8_many_26
    · refine lv_aload_n hx hb dX8_many_21 rfl (lv_at hl 0 rfl) ?_
      refine lv_iload_n hx hb dX8_many_22 rfl (lv_at hl 1 rfl) ?_
      refine x_calli (va_runV (As := [.int (nI 3)]) (rest := []) ⟨hx, hb, hml, hown, hts⟩ (c_X8_manyNow_3 l D cy lo n v1 q (by omega) (by omega) 0 hM hB hF ) (cwV 1 hts gX8_many_X8_manyNow rfl rfl rfl (by decide +kernel) ⟨Nat.le_of_ble_eq_true rfl, Nat.le_of_ble_eq_true rfl⟩) (preV hP hK (x_recv (ci := 8) (q := (RX8, TX8, 8)) hK.1 hP (by omega) (by omega) rfl hM.self)) rfl rfl hl.1 rfl (lv_room (Nat.le_of_ble_eq_true rfl)) dX8_many_23 ⟨Nat.le_of_ble_eq_true rfl, Nat.le_of_ble_eq_true rfl⟩) hS (fun H locs hP hS => ?_)
      have eS : r_many (nI 3) = (0, (0 : Int32)) := by unfold r_many; rw [if_pos c_9] <;> first | rfl | decide
      exact W.iret (v := (0 : Int32)) hx hb hr (fun tE ht hW => ⟨⟨(0 : Int32), v1, rfl, by rw [eS]; exact ⟨⟨_, hM.self⟩, fun _ => rfl, hfr⟩, x_at ht hP⟩, hS.F ht⟩) hS.2.2 dX8_many_26
    · refine lv_aload_n hx hb dX8_many_21 rfl (lv_at hl 0 rfl) ?_
      refine lv_iload_n hx hb dX8_many_22 rfl (lv_at hl 1 rfl) ?_
      refine x_calli (va_runV (As := [.int (nI 4)]) (rest := []) ⟨hx, hb, hml, hown, hts⟩ (c_X8_manyNow_4 l D cy lo n v1 q (by omega) (by omega) 0 hM hB hF ) (cwV 1 hts gX8_many_X8_manyNow rfl rfl rfl (by decide +kernel) ⟨Nat.le_of_ble_eq_true rfl, Nat.le_of_ble_eq_true rfl⟩) (preV hP hK (x_recv (ci := 8) (q := (RX8, TX8, 8)) hK.1 hP (by omega) (by omega) rfl hM.self)) rfl rfl hl.1 rfl (lv_room (Nat.le_of_ble_eq_true rfl)) dX8_many_23 ⟨Nat.le_of_ble_eq_true rfl, Nat.le_of_ble_eq_true rfl⟩) hS (fun H locs hP hS => ?_)
      have eS : r_many (nI 4) = (0, (0 : Int32)) := by unfold r_many; rw [if_pos c_9] <;> first | rfl | decide
      exact W.iret (v := (0 : Int32)) hx hb hr (fun tE ht hW => ⟨⟨(0 : Int32), v1, rfl, by rw [eS]; exact ⟨⟨_, hM.self⟩, fun _ => rfl, hfr⟩, x_at ht hP⟩, hS.F ht⟩) hS.2.2 dX8_many_26
    · refine lv_aload_n hx hb dX8_many_21 rfl (lv_at hl 0 rfl) ?_
      refine lv_iload_n hx hb dX8_many_22 rfl (lv_at hl 1 rfl) ?_
      refine x_calli (va_runV (As := [.int (nI 5)]) (rest := []) ⟨hx, hb, hml, hown, hts⟩ (c_X8_manyNow_5 l D cy lo n v1 q (by omega) (by omega) 0 hM hB hF ) (cwV 1 hts gX8_many_X8_manyNow rfl rfl rfl (by decide +kernel) ⟨Nat.le_of_ble_eq_true rfl, Nat.le_of_ble_eq_true rfl⟩) (preV hP hK (x_recv (ci := 8) (q := (RX8, TX8, 8)) hK.1 hP (by omega) (by omega) rfl hM.self)) rfl rfl hl.1 rfl (lv_room (Nat.le_of_ble_eq_true rfl)) dX8_many_23 ⟨Nat.le_of_ble_eq_true rfl, Nat.le_of_ble_eq_true rfl⟩) hS (fun H locs hP hS => ?_)
      have eS : r_many (nI 5) = (0, (0 : Int32)) := by unfold r_many; rw [if_pos c_9] <;> first | rfl | decide
      exact W.iret (v := (0 : Int32)) hx hb hr (fun tE ht hW => ⟨⟨(0 : Int32), v1, rfl, by rw [eS]; exact ⟨⟨_, hM.self⟩, fun _ => rfl, hfr⟩, x_at ht hP⟩, hS.F ht⟩) hS.2.2 dX8_many_26
    · refine lv_aload_n hx hb dX8_many_21 rfl (lv_at hl 0 rfl) ?_
      refine lv_iload_n hx hb dX8_many_22 rfl (lv_at hl 1 rfl) ?_
      refine x_calli (va_runV (As := [.int (nI 6)]) (rest := []) ⟨hx, hb, hml, hown, hts⟩ (c_X8_manyNow_6 l D cy lo n v1 q (by omega) (by omega) 0 hM hB hF ) (cwV 1 hts gX8_many_X8_manyNow rfl rfl rfl (by decide +kernel) ⟨Nat.le_of_ble_eq_true rfl, Nat.le_of_ble_eq_true rfl⟩) (preV hP hK (x_recv (ci := 8) (q := (RX8, TX8, 8)) hK.1 hP (by omega) (by omega) rfl hM.self)) rfl rfl hl.1 rfl (lv_room (Nat.le_of_ble_eq_true rfl)) dX8_many_23 ⟨Nat.le_of_ble_eq_true rfl, Nat.le_of_ble_eq_true rfl⟩) hS (fun H locs hP hS => ?_)
      have eS : r_many (nI 6) = (0, (0 : Int32)) := by unfold r_many; rw [if_pos c_9] <;> first | rfl | decide
      exact W.iret (v := (0 : Int32)) hx hb hr (fun tE ht hW => ⟨⟨(0 : Int32), v1, rfl, by rw [eS]; exact ⟨⟨_, hM.self⟩, fun _ => rfl, hfr⟩, x_at ht hP⟩, hS.F ht⟩) hS.2.2 dX8_many_26
    · refine lv_aload_n hx hb dX8_many_21 rfl (lv_at hl 0 rfl) ?_
      refine lv_iload_n hx hb dX8_many_22 rfl (lv_at hl 1 rfl) ?_
      refine x_calli (va_runV (As := [.int (nI 7)]) (rest := []) ⟨hx, hb, hml, hown, hts⟩ (c_X8_manyNow_7 l D cy lo n v1 q (by omega) (by omega) 0 hM hB hF ) (cwV 1 hts gX8_many_X8_manyNow rfl rfl rfl (by decide +kernel) ⟨Nat.le_of_ble_eq_true rfl, Nat.le_of_ble_eq_true rfl⟩) (preV hP hK (x_recv (ci := 8) (q := (RX8, TX8, 8)) hK.1 hP (by omega) (by omega) rfl hM.self)) rfl rfl hl.1 rfl (lv_room (Nat.le_of_ble_eq_true rfl)) dX8_many_23 ⟨Nat.le_of_ble_eq_true rfl, Nat.le_of_ble_eq_true rfl⟩) hS (fun H locs hP hS => ?_)
      have eS : r_many (nI 7) = (0, (0 : Int32)) := by unfold r_many; rw [if_pos c_9] <;> first | rfl | decide
      exact W.iret (v := (0 : Int32)) hx hb hr (fun tE ht hW => ⟨⟨(0 : Int32), v1, rfl, by rw [eS]; exact ⟨⟨_, hM.self⟩, fun _ => rfl, hfr⟩, x_at ht hP⟩, hS.F ht⟩) hS.2.2 dX8_many_26
    · refine lv_aload_n hx hb dX8_many_21 rfl (lv_at hl 0 rfl) ?_
      refine lv_iload_n hx hb dX8_many_22 rfl (lv_at hl 1 rfl) ?_
      refine x_calli (va_runV (As := [.int (nI 8)]) (rest := []) ⟨hx, hb, hml, hown, hts⟩ (c_X8_manyNow_8 l D cy lo n v1 q (by omega) (by omega) 0 hM hB hF ) (cwV 1 hts gX8_many_X8_manyNow rfl rfl rfl (by decide +kernel) ⟨Nat.le_of_ble_eq_true rfl, Nat.le_of_ble_eq_true rfl⟩) (preV hP hK (x_recv (ci := 8) (q := (RX8, TX8, 8)) hK.1 hP (by omega) (by omega) rfl hM.self)) rfl rfl hl.1 rfl (lv_room (Nat.le_of_ble_eq_true rfl)) dX8_many_23 ⟨Nat.le_of_ble_eq_true rfl, Nat.le_of_ble_eq_true rfl⟩) hS (fun H locs hP hS => ?_)
      have eS : r_many (nI 8) = (0, (0 : Int32)) := by unfold r_many; rw [if_pos c_9] <;> first | rfl | decide
      exact W.iret (v := (0 : Int32)) hx hb hr (fun tE ht hW => ⟨⟨(0 : Int32), v1, rfl, by rw [eS]; exact ⟨⟨_, hM.self⟩, fun _ => rfl, hfr⟩, x_at ht hP⟩, hS.F ht⟩) hS.2.2 dX8_many_26
    · refine lv_aload_n hx hb dX8_many_21 rfl (lv_at hl 0 rfl) ?_
      refine lv_iload_n hx hb dX8_many_22 rfl (lv_at hl 1 rfl) ?_
      refine x_calli (va_runV (As := [.int (nI 9)]) (rest := []) ⟨hx, hb, hml, hown, hts⟩ (c_X8_manyNow_9 l D cy lo n v1 q (by omega) (by omega) 0 hM hB hF ) (cwV 1 hts gX8_many_X8_manyNow rfl rfl rfl (by decide +kernel) ⟨Nat.le_of_ble_eq_true rfl, Nat.le_of_ble_eq_true rfl⟩) (preV hP hK (x_recv (ci := 8) (q := (RX8, TX8, 8)) hK.1 hP (by omega) (by omega) rfl hM.self)) rfl rfl hl.1 rfl (lv_room (Nat.le_of_ble_eq_true rfl)) dX8_many_23 ⟨Nat.le_of_ble_eq_true rfl, Nat.le_of_ble_eq_true rfl⟩) hS (fun H locs hP hS => ?_)
      have eS : r_many (nI 9) = (0, (0 : Int32)) := by unfold r_many; rw [if_pos c_9] <;> first | rfl | decide
      exact W.iret (v := (0 : Int32)) hx hb hr (fun tE ht hW => ⟨⟨(0 : Int32), v1, rfl, by rw [eS]; exact ⟨⟨_, hM.self⟩, fun _ => rfl, hfr⟩, x_at ht hP⟩, hS.F ht⟩) hS.2.2 dX8_many_26
    · refine lv_aload_n hx hb dX8_many_21 rfl (lv_at hl 0 rfl) ?_
      refine lv_iload_n hx hb dX8_many_22 rfl (lv_at hl 1 rfl) ?_
      refine x_calli (va_runV (As := [.int (nI 10)]) (rest := []) ⟨hx, hb, hml, hown, hts⟩ (c_X8_manyNow_10 l D cy lo n v1 q (by omega) (by omega) 0 hM hB hF ) (cwV 1 hts gX8_many_X8_manyNow rfl rfl rfl (by decide +kernel) ⟨Nat.le_of_ble_eq_true rfl, Nat.le_of_ble_eq_true rfl⟩) (preV hP hK (x_recv (ci := 8) (q := (RX8, TX8, 8)) hK.1 hP (by omega) (by omega) rfl hM.self)) rfl rfl hl.1 rfl (lv_room (Nat.le_of_ble_eq_true rfl)) dX8_many_23 ⟨Nat.le_of_ble_eq_true rfl, Nat.le_of_ble_eq_true rfl⟩) hS (fun H locs hP hS => ?_)
      have eS : r_many (nI 10) = (0, (0 : Int32)) := by unfold r_many; rw [if_pos c_9] <;> first | rfl | decide
      exact W.iret (v := (0 : Int32)) hx hb hr (fun tE ht hW => ⟨⟨(0 : Int32), v1, rfl, by rw [eS]; exact ⟨⟨_, hM.self⟩, fun _ => rfl, hfr⟩, x_at ht hP⟩, hS.F ht⟩) hS.2.2 dX8_many_26
    · refine lv_aload_n hx hb dX8_many_21 rfl (lv_at hl 0 rfl) ?_
      refine lv_iload_n hx hb dX8_many_22 rfl (lv_at hl 1 rfl) ?_
      refine x_calli (va_runV (As := [.int (nI 11)]) (rest := []) ⟨hx, hb, hml, hown, hts⟩ (c_X8_manyNow_11 l D cy lo n v1 q (by omega) (by omega) 0 hM hB hF ) (cwV 1 hts gX8_many_X8_manyNow rfl rfl rfl (by decide +kernel) ⟨Nat.le_of_ble_eq_true rfl, Nat.le_of_ble_eq_true rfl⟩) (preV hP hK (x_recv (ci := 8) (q := (RX8, TX8, 8)) hK.1 hP (by omega) (by omega) rfl hM.self)) rfl rfl hl.1 rfl (lv_room (Nat.le_of_ble_eq_true rfl)) dX8_many_23 ⟨Nat.le_of_ble_eq_true rfl, Nat.le_of_ble_eq_true rfl⟩) hS (fun H locs hP hS => ?_)
      have eS : r_many (nI 11) = (0, (0 : Int32)) := by unfold r_many; rw [if_pos c_9] <;> first | rfl | decide
      exact W.iret (v := (0 : Int32)) hx hb hr (fun tE ht hW => ⟨⟨(0 : Int32), v1, rfl, by rw [eS]; exact ⟨⟨_, hM.self⟩, fun _ => rfl, hfr⟩, x_at ht hP⟩, hS.F ht⟩) hS.2.2 dX8_many_26
    · refine lv_aload_n hx hb dX8_many_21 rfl (lv_at hl 0 rfl) ?_
      refine lv_iload_n hx hb dX8_many_22 rfl (lv_at hl 1 rfl) ?_
      refine x_calli (va_runV (As := [.int (nI 12)]) (rest := []) ⟨hx, hb, hml, hown, hts⟩ (c_X8_manyNow_12 l D cy lo n v1 q (by omega) (by omega) 0 hM hB hF ) (cwV 1 hts gX8_many_X8_manyNow rfl rfl rfl (by decide +kernel) ⟨Nat.le_of_ble_eq_true rfl, Nat.le_of_ble_eq_true rfl⟩) (preV hP hK (x_recv (ci := 8) (q := (RX8, TX8, 8)) hK.1 hP (by omega) (by omega) rfl hM.self)) rfl rfl hl.1 rfl (lv_room (Nat.le_of_ble_eq_true rfl)) dX8_many_23 ⟨Nat.le_of_ble_eq_true rfl, Nat.le_of_ble_eq_true rfl⟩) hS (fun H locs hP hS => ?_)
      have eS : r_many (nI 12) = (0, (0 : Int32)) := by unfold r_many; rw [if_pos c_9] <;> first | rfl | decide
      exact W.iret (v := (0 : Int32)) hx hb hr (fun tE ht hW => ⟨⟨(0 : Int32), v1, rfl, by rw [eS]; exact ⟨⟨_, hM.self⟩, fun _ => rfl, hfr⟩, x_at ht hP⟩, hS.F ht⟩) hS.2.2 dX8_many_26
    · refine lv_aload_n hx hb dX8_many_21 rfl (lv_at hl 0 rfl) ?_
      refine lv_iload_n hx hb dX8_many_22 rfl (lv_at hl 1 rfl) ?_
      refine x_calli (va_runV (As := [.int (nI 13)]) (rest := []) ⟨hx, hb, hml, hown, hts⟩ (c_X8_manyNow_13 l D cy lo n v1 q (by omega) (by omega) 0 hM hB hF ) (cwV 1 hts gX8_many_X8_manyNow rfl rfl rfl (by decide +kernel) ⟨Nat.le_of_ble_eq_true rfl, Nat.le_of_ble_eq_true rfl⟩) (preV hP hK (x_recv (ci := 8) (q := (RX8, TX8, 8)) hK.1 hP (by omega) (by omega) rfl hM.self)) rfl rfl hl.1 rfl (lv_room (Nat.le_of_ble_eq_true rfl)) dX8_many_23 ⟨Nat.le_of_ble_eq_true rfl, Nat.le_of_ble_eq_true rfl⟩) hS (fun H locs hP hS => ?_)
      have eS : r_many (nI 13) = (0, (0 : Int32)) := by unfold r_many; rw [if_pos c_9] <;> first | rfl | decide
      exact W.iret (v := (0 : Int32)) hx hb hr (fun tE ht hW => ⟨⟨(0 : Int32), v1, rfl, by rw [eS]; exact ⟨⟨_, hM.self⟩, fun _ => rfl, hfr⟩, x_at ht hP⟩, hS.F ht⟩) hS.2.2 dX8_many_26
    · refine lv_aload_n hx hb dX8_many_21 rfl (lv_at hl 0 rfl) ?_
      refine lv_iload_n hx hb dX8_many_22 rfl (lv_at hl 1 rfl) ?_
      refine x_calli (va_runV (As := [.int (nI 14)]) (rest := []) ⟨hx, hb, hml, hown, hts⟩ (c_X8_manyNow_14 l D cy lo n v1 q (by omega) (by omega) 0 hM hB hF ) (cwV 1 hts gX8_many_X8_manyNow rfl rfl rfl (by decide +kernel) ⟨Nat.le_of_ble_eq_true rfl, Nat.le_of_ble_eq_true rfl⟩) (preV hP hK (x_recv (ci := 8) (q := (RX8, TX8, 8)) hK.1 hP (by omega) (by omega) rfl hM.self)) rfl rfl hl.1 rfl (lv_room (Nat.le_of_ble_eq_true rfl)) dX8_many_23 ⟨Nat.le_of_ble_eq_true rfl, Nat.le_of_ble_eq_true rfl⟩) hS (fun H locs hP hS => ?_)
      have eS : r_many (nI 14) = (0, (0 : Int32)) := by unfold r_many; rw [if_pos c_9] <;> first | rfl | decide
      exact W.iret (v := (0 : Int32)) hx hb hr (fun tE ht hW => ⟨⟨(0 : Int32), v1, rfl, by rw [eS]; exact ⟨⟨_, hM.self⟩, fun _ => rfl, hfr⟩, x_at ht hP⟩, hS.F ht⟩) hS.2.2 dX8_many_26
  · refine x_top (v' := (0 : Int32)) (if_neg c_9) ?_
    refine lv_if_ne (tgt := 21) hx hb dX8_many_12 (by decide) (fun h => absurd (by decide) h) (fun _ => ?_)
    refine lv_aload_n hx hb dX8_many_15 rfl (lv_at hl 0 rfl) ?_
    refine lv_iconst (v := 1) hx hb dX8_many_16 (by decide) ?_
    refine x_callx (va_runV (As := [.int (1 : Int32)]) (rest := []) ⟨hx, hb, hml, hown, hts⟩ (c_X8_no l D cy lo n v1 q (by omega) (by omega) 0 hM hB hF (1 : Int32)) (cwV 1 hts gX8_many_X8_no rfl rfl rfl (by decide +kernel) ⟨Nat.le_of_ble_eq_true rfl, Nat.le_of_ble_eq_true rfl⟩) (preV hP hK (x_recv (ci := 8) (q := (RX8, TX8, 8)) hK.1 hP (by omega) (by omega) rfl hM.self)) rfl rfl hl.1 rfl (lv_room (Nat.le_of_ble_eq_true rfl)) dX8_many_17 ⟨Nat.le_of_ble_eq_true rfl, Nat.le_of_ble_eq_true rfl⟩) hS (fun r9 u2 H locs hX hP hS => ?_)
    obtain ⟨rfl, hM, hB, hF, hf9⟩ := hX
    have hfr := hfr.tr hf9 (by omega) (by omega)
    have eS : r_many x = (1, (0 : Int32)) := by unfold r_many; rw [if_neg c_9] <;> first | rfl | decide
    exact W.iret (v := (0 : Int32)) hx hb hr (fun tE ht hW => ⟨⟨(0 : Int32), u2, rfl, by rw [eS]; exact ⟨⟨_, hM.self⟩, fun _ => rfl, hfr⟩, x_at ht hP⟩, hS.F ht⟩) hS.2.2 dX8_many_20

set_option maxRecDepth 100000 in
set_option maxHeartbeats 1000000 in
/-- keptNow -/
theorem c_X8_keptNow (l : Launch) (D : va_G) (cy : Nat → ClassId) (lo n : Nat) (w : Nat → va_E) (q : Nat) (h1 : lo ≤ q) (h2 : q + 22 ≤ lo + n) (th : Int32) (hM : MM cy w q th 5 0 0 0) (hB : LB cy w q) (hF : FM cy w (q + 1) 0 300) (xi : Nat) (hxi : xi < 16) (y z : Int32) : Met l yX8_keptNow wsX8_keptNow ({ frames := 0, cells := 0, slots := 0, locals := 0 }) (PcW D cy lo n w [.ref q, .int (nI xi), .int y, .int z]) (QiW D lo n w 0) 0 0 (fun q : Nat => lo ≤ q) := by
  refine Met.ofW (cc := cX8_keptNow) (maxL := 5) (ret := (some .int)) (by decide) rfl ?_
  intro p e s m args below meth c s₁ B hml hv
  obtain ⟨rfl, hP, hK, hS⟩ := x_entry hv
  have hx := B.exec
  have hb := B.bytes
  have hr := B.returns
  have hts := atoms_spec (ws := wsX8_keptNow) B.pre
  have hown : s.vm.findClass RX8 = some m.cls := findClass_of_methodNamed B.named
  have hlocks := B.notSynchronized
  have iX7 : ∀ w ∈ u_ws RX7 TX7 14, w ∈ wsX8_keptNow := by decide +kernel
  have iX8 : ∀ w ∈ u_ws RX8 TX8 8, w ∈ wsX8_keptNow := by decide +kernel
  have hl := lv_entry ([.ref q, .int (nI xi), .int y, .int z]) (n := 5) (Nat.le_of_ble_eq_true rfl)
  rw [lg_entry_eq]
  generalize (lg_sl ([.ref q, .int (nI xi), .int y, .int z]) ++ List.replicate (5 - (lg_sl ([.ref q, .int (nI xi), .int y, .int z])).length) Slot.unset).toArray = ls at hl ⊢
  have hl : lv_has ls 5 [(0, .ref q), (1, .int (nI xi)), (2, .int y), (3, .int z)] := hl
  refine lv_iload_n hx hb dX8_keptNow_0 rfl (lv_at hl 2 rfl) ?_
  refine lv_if_eq (tgt := 14) hx hb dX8_keptNow_1 (by decide) (fun c_1 => ?_) (fun c_1 => ?_)
  · refine lv_aload_n hx hb dX8_keptNow_14 rfl (lv_at hl 0 rfl) ?_
    refine x_get (ref := RX8) (C := RX8) (T := TX8) (N := 8) (ci := 8) (v := .ref (q + 1)) hx hb hts iX8 hown hK.1 hP (by omega) (by omega) hM.self rfl 1 (by decide) (hts (.fieldLink RX8 10 "PoreFieldModel" "field" "LPoreFieldModel$Field;") (by decide +kernel)) (fun _ h9 => h9) rfl dX8_keptNow_15 ?_
    refine x_get (ref := RX7) (C := RX7) (T := TX7) (N := 14) (ci := 7) (v := .ref ((q + 1) + 4)) hx hb hts iX7 hown hK.1 hP (by omega) (by omega) hF.self rfl 3 (by decide) (hts (.fieldLink RX8 64 "PoreFieldModel$Field" "south" "[Z") (by decide +kernel)) (fun _ h9 => h9) rfl dX8_keptNow_18 ?_
    refine lv_iload_n hx hb dX8_keptNow_21 rfl (lv_at hl 1 rfl) ?_
    obtain ⟨d1, g1, q1⟩ := hF.south
    refine x_zald hx hb hK.1 hP (by omega) (by omega) 5 g1 rfl (cl_of_nI (i := xi) rfl (by omega)) (vp_in_of_nI (i := xi) rfl (by omega) (by omega)) dX8_keptNow_22 ?_
    refine x_top (v' := (0 : Int32)) (q1 _ (by omega)) ?_
    refine lv_if_ne (tgt := 28) hx hb dX8_keptNow_23 (by decide) (fun h => absurd (by decide) h) (fun _ => ?_)
    refine lv_iconst (v := 0) hx hb dX8_keptNow_26 (by decide) ?_
    exact W.iret (v := (0 : Int32)) hx hb hr (fun tE ht hW => ⟨⟨(0 : Int32), (), rfl, rfl, x_at ht hP⟩, hS.F ht⟩) hS.2.2 dX8_keptNow_27
  · refine lv_aload_n hx hb dX8_keptNow_4 rfl (lv_at hl 0 rfl) ?_
    refine x_get (ref := RX8) (C := RX8) (T := TX8) (N := 8) (ci := 8) (v := .ref (q + 1)) hx hb hts iX8 hown hK.1 hP (by omega) (by omega) hM.self rfl 1 (by decide) (hts (.fieldLink RX8 10 "PoreFieldModel" "field" "LPoreFieldModel$Field;") (by decide +kernel)) (fun _ h9 => h9) rfl dX8_keptNow_5 ?_
    refine x_get (ref := RX7) (C := RX7) (T := TX7) (N := 14) (ci := 7) (v := .ref ((q + 1) + 3)) hx hb hts iX7 hown hK.1 hP (by omega) (by omega) hF.self rfl 2 (by decide) (hts (.fieldLink RX8 60 "PoreFieldModel$Field" "east" "[Z") (by decide +kernel)) (fun _ h9 => h9) rfl dX8_keptNow_8 ?_
    refine lv_goto (tgt := 21) hx hb dX8_keptNow_11 (by decide) ?_
    refine lv_iload_n hx hb dX8_keptNow_21 rfl (lv_at hl 1 rfl) ?_
    obtain ⟨d2, g2, q2⟩ := hF.east
    refine x_zald hx hb hK.1 hP (by omega) (by omega) 5 g2 rfl (cl_of_nI (i := xi) rfl (by omega)) (vp_in_of_nI (i := xi) rfl (by omega) (by omega)) dX8_keptNow_22 ?_
    refine x_top (v' := (0 : Int32)) (q2 _ (by omega)) ?_
    refine lv_if_ne (tgt := 28) hx hb dX8_keptNow_23 (by decide) (fun h => absurd (by decide) h) (fun _ => ?_)
    refine lv_iconst (v := 0) hx hb dX8_keptNow_26 (by decide) ?_
    exact W.iret (v := (0 : Int32)) hx hb hr (fun tE ht hW => ⟨⟨(0 : Int32), (), rfl, rfl, x_at ht hP⟩, hS.F ht⟩) hS.2.2 dX8_keptNow_27

def r_keptBack (x y z : Int32) : Int32 × Int32 := if r_beside x y = 0 then (1, 0) else if 1 ≤ z ∧ z ≤ 6 then (0, 0) else (2, 0)
set_option maxRecDepth 100000 in
set_option maxHeartbeats 1000000 in
/-- keptBack -/
theorem c_X8_keptBack (l : Launch) (D : va_G) (cy : Nat → ClassId) (lo n : Nat) (w : Nat → va_E) (q : Nat) (h1 : lo ≤ q) (h2 : q + 22 ≤ lo + n) (th : Int32) (hM : MM cy w q th 5 0 0 0) (hB : LB cy w q) (hF : FM cy w (q + 1) 0 300) (x y z : Int32) : Met l yX8_keptBack wsX8_keptBack ({ frames := 3, cells := 0, slots := 0, locals := 63 }) (PcW D cy lo n w [.ref q, .int x, .int y, .int z]) (QR D lo n q w (r_keptBack x y z)) 0 0 (fun q : Nat => lo ≤ q) := by
  refine Met.ofW (cc := cX8_keptBack) (maxL := 4) (ret := (some .int)) (by decide) rfl ?_
  intro p e s m args below meth c s₁ B hml hv
  obtain ⟨rfl, hP, hK, hS⟩ := x_entry hv
  have hx := B.exec
  have hb := B.bytes
  have hr := B.returns
  have hts := atoms_spec (ws := wsX8_keptBack) B.pre
  have hown : s.vm.findClass RX8 = some m.cls := findClass_of_methodNamed B.named
  have hlocks := B.notSynchronized
  have iX8 : ∀ w ∈ u_ws RX8 TX8 8, w ∈ wsX8_keptBack := by decide +kernel
  have hl := lv_entry ([.ref q, .int x, .int y, .int z]) (n := 4) (Nat.le_of_ble_eq_true rfl)
  rw [lg_entry_eq]
  generalize (lg_sl ([.ref q, .int x, .int y, .int z]) ++ List.replicate (4 - (lg_sl ([.ref q, .int x, .int y, .int z])).length) Slot.unset).toArray = ls at hl ⊢
  have hl : lv_has ls 4 [(0, .ref q), (1, .int x), (2, .int y), (3, .int z)] := hl
  have hfr : fr q 22 w w := fr.rf
  refine lv_aload_n hx hb dX8_keptBack_0 rfl (lv_at hl 0 rfl) ?_
  refine lv_iconst (v := 0) hx hb dX8_keptBack_1 (by decide) ?_
  refine x_put (ty := tyX8 0) (ref := RX8) (C := RX8) (T := TX8) (N := 8) (ci := 8) (v := .int (0 : Int32)) hx hb hts iX8 tyX8 tyX8_ok nmX8 hown hK.1 hP hS (by omega) (by omega) hM.self rfl 0 (by decide) (hts (.fieldLink RX8 29 "PoreFieldModel" "thrown" "I") (by decide +kernel)) (fun _ h9 => h9) rfl (by decide +kernel) rfl rfl (Nat.le_of_ble_eq_true rfl) dX8_keptBack_2 (fun H locs hP hS => ?_)
  refine x_gen hP (fun v1 e1 hP => ?_)
  have hF : FM cy v1 (q + 1) 0 300 := by rw [e1]; exact hF.o (by omega)
  have hM : MM cy v1 q 0 5 0 0 0 := by rw [e1]; exact hM.up_self (th' := 0) (pr' := 5) (bk' := 0) (bo' := 0) (bw' := 0)
  have hB : LB cy v1 q := by rw [e1]; exact hB.o (by omega)
  have hfr : fr q 22 w v1 := by rw [e1]; exact hfr.up (by omega) (by omega)
  refine lv_iload_n hx hb dX8_keptBack_5 rfl (lv_at hl 1 rfl) ?_
  refine lv_iload_n hx hb dX8_keptBack_6 rfl (lv_at hl 2 rfl) ?_
  refine x_calli (va_runS (As := [.int x, .int y]) (rest := []) ⟨hx, hb, hml, hown, hts⟩ (c_X8_isBeside l D cy lo n v1 x y) (va_cwS 2 hts gX8_keptBack_X8_isBeside rfl rfl rfl (by decide +kernel) ⟨Nat.le_of_ble_eq_true rfl, Nat.le_of_ble_eq_true rfl⟩) (preS hP hK) rfl rfl hl.1 rfl (lv_room (Nat.le_of_ble_eq_true rfl)) dX8_keptBack_7 ⟨Nat.le_of_ble_eq_true rfl, Nat.le_of_ble_eq_true rfl⟩) hS (fun H locs hP hS => ?_)
  rcases r_beside_01 x y with c_7 | c_7
  · refine x_top (v' := (0 : Int32)) c_7 ?_
    refine lv_if_ne (tgt := 19) hx hb dX8_keptBack_10 (by decide) (fun h => absurd (by decide) h) (fun _ => ?_)
    refine lv_aload_n hx hb dX8_keptBack_13 rfl (lv_at hl 0 rfl) ?_
    refine lv_iconst (v := 1) hx hb dX8_keptBack_14 (by decide) ?_
    refine x_callx (va_runV (As := [.int (1 : Int32)]) (rest := []) ⟨hx, hb, hml, hown, hts⟩ (c_X8_no l D cy lo n v1 q (by omega) (by omega) 0 hM hB hF (1 : Int32)) (cwV 1 hts gX8_keptBack_X8_no rfl rfl rfl (by decide +kernel) ⟨Nat.le_of_ble_eq_true rfl, Nat.le_of_ble_eq_true rfl⟩) (preV hP hK (x_recv (ci := 8) (q := (RX8, TX8, 8)) hK.1 hP (by omega) (by omega) rfl hM.self)) rfl rfl hl.1 rfl (lv_room (Nat.le_of_ble_eq_true rfl)) dX8_keptBack_15 ⟨Nat.le_of_ble_eq_true rfl, Nat.le_of_ble_eq_true rfl⟩) hS (fun r9 u2 H locs hX hP hS => ?_)
    obtain ⟨rfl, hM, hB, hF, hf9⟩ := hX
    have hfr := hfr.tr hf9 (by omega) (by omega)
    have eS : r_keptBack x y z = (1, (0 : Int32)) := by unfold r_keptBack; rw [if_pos c_7] <;> first | rfl | decide
    exact W.iret (v := (0 : Int32)) hx hb hr (fun tE ht hW => ⟨⟨(0 : Int32), u2, rfl, by rw [eS]; exact ⟨⟨_, hM.self⟩, fun _ => rfl, hfr⟩, x_at ht hP⟩, hS.F ht⟩) hS.2.2 dX8_keptBack_18
  · refine x_top (v' := (1 : Int32)) c_7 ?_
    have i_7 : 0 ≤ x ∧ x ≤ 15 := by by_cases h9 : 0 ≤ x ∧ x ≤ 15; exact h9; unfold r_beside at c_7; rw [if_neg h9] at c_7; exact absurd c_7 (by decide)
    obtain ⟨xi, h_xi, e_xi⟩ := nI_of2 (n := 15) (by decide) (Int32.not_lt.mpr (Int32.le_trans (by decide) i_7.1)) i_7.2
    subst e_xi
    refine lv_if_ne (tgt := 19) hx hb dX8_keptBack_10 (by decide) (fun _ => ?_) (fun h => absurd h (by decide))
    refine lv_iload_n hx hb dX8_keptBack_19 rfl (lv_at hl 3 rfl) ?_
    refine lv_iconst (v := 1) hx hb dX8_keptBack_20 (by decide) ?_
    refine lv_bipush (v := 6) hx hb dX8_keptBack_21 (by decide) ?_
    refine x_calli (va_runS (As := [.int z, .int (1 : Int32), .int (6 : Int32)]) (rest := []) ⟨hx, hb, hml, hown, hts⟩ (c_X8_in l D cy lo n v1 z (1 : Int32) (6 : Int32)) (va_cwS 3 hts gX8_keptBack_X8_in rfl rfl rfl (by decide +kernel) ⟨Nat.le_of_ble_eq_true rfl, Nat.le_of_ble_eq_true rfl⟩) (preS hP hK) rfl rfl hl.1 rfl (lv_room (Nat.le_of_ble_eq_true rfl)) dX8_keptBack_23 ⟨Nat.le_of_ble_eq_true rfl, Nat.le_of_ble_eq_true rfl⟩) hS (fun H locs hP hS => ?_)
    by_cases c_23 : (1 : Int32) ≤ z ∧ z ≤ (6 : Int32)
    · refine x_top (v' := (1 : Int32)) (if_pos c_23) ?_
      refine lv_if_ne (tgt := 35) hx hb dX8_keptBack_26 (by decide) (fun _ => ?_) (fun h => absurd h (by decide))
      refine lv_aload_n hx hb dX8_keptBack_35 rfl (lv_at hl 0 rfl) ?_
      refine lv_iload_n hx hb dX8_keptBack_36 rfl (lv_at hl 1 rfl) ?_
      refine lv_iload_n hx hb dX8_keptBack_37 rfl (lv_at hl 2 rfl) ?_
      refine lv_iload_n hx hb dX8_keptBack_38 rfl (lv_at hl 3 rfl) ?_
      refine x_calli (va_runV (As := [.int (nI xi), .int y, .int z]) (rest := []) ⟨hx, hb, hml, hown, hts⟩ (c_X8_keptNow l D cy lo n v1 q (by omega) (by omega) 0 hM hB hF xi (by omega) y z) (cwV 3 hts gX8_keptBack_X8_keptNow rfl rfl rfl (by decide +kernel) ⟨Nat.le_of_ble_eq_true rfl, Nat.le_of_ble_eq_true rfl⟩) (preV hP hK (x_recv (ci := 8) (q := (RX8, TX8, 8)) hK.1 hP (by omega) (by omega) rfl hM.self)) rfl rfl hl.1 rfl (lv_room (Nat.le_of_ble_eq_true rfl)) dX8_keptBack_39 ⟨Nat.le_of_ble_eq_true rfl, Nat.le_of_ble_eq_true rfl⟩) hS (fun H locs hP hS => ?_)
      have eS : r_keptBack (nI xi) y z = (0, (0 : Int32)) := by unfold r_keptBack; rw [if_neg (by rw [c_7]; decide), if_pos c_23] <;> first | rfl | decide
      exact W.iret (v := (0 : Int32)) hx hb hr (fun tE ht hW => ⟨⟨(0 : Int32), v1, rfl, by rw [eS]; exact ⟨⟨_, hM.self⟩, fun _ => rfl, hfr⟩, x_at ht hP⟩, hS.F ht⟩) hS.2.2 dX8_keptBack_42
    · refine x_top (v' := (0 : Int32)) (if_neg c_23) ?_
      refine lv_if_ne (tgt := 35) hx hb dX8_keptBack_26 (by decide) (fun h => absurd (by decide) h) (fun _ => ?_)
      refine lv_aload_n hx hb dX8_keptBack_29 rfl (lv_at hl 0 rfl) ?_
      refine lv_iconst (v := 2) hx hb dX8_keptBack_30 (by decide) ?_
      refine x_callx (va_runV (As := [.int (2 : Int32)]) (rest := []) ⟨hx, hb, hml, hown, hts⟩ (c_X8_no l D cy lo n v1 q (by omega) (by omega) 0 hM hB hF (2 : Int32)) (cwV 1 hts gX8_keptBack_X8_no rfl rfl rfl (by decide +kernel) ⟨Nat.le_of_ble_eq_true rfl, Nat.le_of_ble_eq_true rfl⟩) (preV hP hK (x_recv (ci := 8) (q := (RX8, TX8, 8)) hK.1 hP (by omega) (by omega) rfl hM.self)) rfl rfl hl.1 rfl (lv_room (Nat.le_of_ble_eq_true rfl)) dX8_keptBack_31 ⟨Nat.le_of_ble_eq_true rfl, Nat.le_of_ble_eq_true rfl⟩) hS (fun r9 u3 H locs hX hP hS => ?_)
      obtain ⟨rfl, hM, hB, hF, hf9⟩ := hX
      have hfr := hfr.tr hf9 (by omega) (by omega)
      have eS : r_keptBack (nI xi) y z = (2, (0 : Int32)) := by unfold r_keptBack; rw [if_neg (by rw [c_7]; decide), if_neg c_23] <;> first | rfl | decide
      exact W.iret (v := (0 : Int32)) hx hb hr (fun tE ht hW => ⟨⟨(0 : Int32), u3, rfl, by rw [eS]; exact ⟨⟨_, hM.self⟩, fun _ => rfl, hfr⟩, x_at ht hP⟩, hS.F ht⟩) hS.2.2 dX8_keptBack_34

def r_shares (x y : Int32) : Int32 × Int32 := if x < 0 then (1, 0) else if y < 0 then (1, 0) else if 100 < x then (1, 0) else if y ≤ 100 - x then (0, 100 - x - y) else (1, 0)
set_option maxRecDepth 100000 in
set_option maxHeartbeats 1000000 in
/-- shares -/
theorem c_X8_shares (l : Launch) (D : va_G) (cy : Nat → ClassId) (lo n : Nat) (w : Nat → va_E) (q : Nat) (h1 : lo ≤ q) (h2 : q + 22 ≤ lo + n) (th : Int32) (hM : MM cy w q th 5 0 0 0) (hB : LB cy w q) (hF : FM cy w (q + 1) 0 300) (x y : Int32) : Met l yX8_shares wsX8_shares ({ frames := 1, cells := 0, slots := 0, locals := 21 }) (PcW D cy lo n w [.ref q, .int x, .int y]) (QR D lo n q w (r_shares x y)) 0 0 (fun q : Nat => lo ≤ q) := by
  refine Met.ofW (cc := cX8_shares) (maxL := 3) (ret := (some .int)) (by decide) rfl ?_
  intro p e s m args below meth c s₁ B hml hv
  obtain ⟨rfl, hP, hK, hS⟩ := x_entry hv
  have hx := B.exec
  have hb := B.bytes
  have hr := B.returns
  have hts := atoms_spec (ws := wsX8_shares) B.pre
  have hown : s.vm.findClass RX8 = some m.cls := findClass_of_methodNamed B.named
  have hlocks := B.notSynchronized
  have iX8 : ∀ w ∈ u_ws RX8 TX8 8, w ∈ wsX8_shares := by decide +kernel
  have hl := lv_entry ([.ref q, .int x, .int y]) (n := 3) (Nat.le_of_ble_eq_true rfl)
  rw [lg_entry_eq]
  generalize (lg_sl ([.ref q, .int x, .int y]) ++ List.replicate (3 - (lg_sl ([.ref q, .int x, .int y])).length) Slot.unset).toArray = ls at hl ⊢
  have hl : lv_has ls 3 [(0, .ref q), (1, .int x), (2, .int y)] := hl
  have hfr : fr q 22 w w := fr.rf
  refine lv_aload_n hx hb dX8_shares_0 rfl (lv_at hl 0 rfl) ?_
  refine lv_iconst (v := 0) hx hb dX8_shares_1 (by decide) ?_
  refine x_put (ty := tyX8 0) (ref := RX8) (C := RX8) (T := TX8) (N := 8) (ci := 8) (v := .int (0 : Int32)) hx hb hts iX8 tyX8 tyX8_ok nmX8 hown hK.1 hP hS (by omega) (by omega) hM.self rfl 0 (by decide) (hts (.fieldLink RX8 29 "PoreFieldModel" "thrown" "I") (by decide +kernel)) (fun _ h9 => h9) rfl (by decide +kernel) rfl rfl (Nat.le_of_ble_eq_true rfl) dX8_shares_2 (fun H locs hP hS => ?_)
  refine x_gen hP (fun v1 e1 hP => ?_)
  have hF : FM cy v1 (q + 1) 0 300 := by rw [e1]; exact hF.o (by omega)
  have hM : MM cy v1 q 0 5 0 0 0 := by rw [e1]; exact hM.up_self (th' := 0) (pr' := 5) (bk' := 0) (bo' := 0) (bw' := 0)
  have hB : LB cy v1 q := by rw [e1]; exact hB.o (by omega)
  have hfr : fr q 22 w v1 := by rw [e1]; exact hfr.up (by omega) (by omega)
  refine lv_iload_n hx hb dX8_shares_5 rfl (lv_at hl 1 rfl) ?_
  refine lv_if_lt (tgt := 27) hx hb dX8_shares_6 (by decide) (fun c_6 => ?_) (fun c_6 => ?_)
  · refine lv_aload_n hx hb dX8_shares_27 rfl (lv_at hl 0 rfl) ?_
    refine lv_iconst (v := 1) hx hb dX8_shares_28 (by decide) ?_
    refine x_callx (va_runV (As := [.int (1 : Int32)]) (rest := []) ⟨hx, hb, hml, hown, hts⟩ (c_X8_no l D cy lo n v1 q (by omega) (by omega) 0 hM hB hF (1 : Int32)) (cwV 1 hts gX8_shares_X8_no rfl rfl rfl (by decide +kernel) ⟨Nat.le_of_ble_eq_true rfl, Nat.le_of_ble_eq_true rfl⟩) (preV hP hK (x_recv (ci := 8) (q := (RX8, TX8, 8)) hK.1 hP (by omega) (by omega) rfl hM.self)) rfl rfl hl.1 rfl (lv_room (Nat.le_of_ble_eq_true rfl)) dX8_shares_29 ⟨Nat.le_of_ble_eq_true rfl, Nat.le_of_ble_eq_true rfl⟩) hS (fun r9 u2 H locs hX hP hS => ?_)
    obtain ⟨rfl, hM, hB, hF, hf9⟩ := hX
    have hfr := hfr.tr hf9 (by omega) (by omega)
    have eS : r_shares x y = (1, (0 : Int32)) := by unfold r_shares; rw [if_pos c_6] <;> first | rfl | decide
    exact W.iret (v := (0 : Int32)) hx hb hr (fun tE ht hW => ⟨⟨(0 : Int32), u2, rfl, by rw [eS]; exact ⟨⟨_, hM.self⟩, fun _ => rfl, hfr⟩, x_at ht hP⟩, hS.F ht⟩) hS.2.2 dX8_shares_32
  · refine lv_iload_n hx hb dX8_shares_9 rfl (lv_at hl 2 rfl) ?_
    refine lv_if_lt (tgt := 27) hx hb dX8_shares_10 (by decide) (fun c_10 => ?_) (fun c_10 => ?_)
    · refine lv_aload_n hx hb dX8_shares_27 rfl (lv_at hl 0 rfl) ?_
      refine lv_iconst (v := 1) hx hb dX8_shares_28 (by decide) ?_
      refine x_callx (va_runV (As := [.int (1 : Int32)]) (rest := []) ⟨hx, hb, hml, hown, hts⟩ (c_X8_no l D cy lo n v1 q (by omega) (by omega) 0 hM hB hF (1 : Int32)) (cwV 1 hts gX8_shares_X8_no rfl rfl rfl (by decide +kernel) ⟨Nat.le_of_ble_eq_true rfl, Nat.le_of_ble_eq_true rfl⟩) (preV hP hK (x_recv (ci := 8) (q := (RX8, TX8, 8)) hK.1 hP (by omega) (by omega) rfl hM.self)) rfl rfl hl.1 rfl (lv_room (Nat.le_of_ble_eq_true rfl)) dX8_shares_29 ⟨Nat.le_of_ble_eq_true rfl, Nat.le_of_ble_eq_true rfl⟩) hS (fun r9 u3 H locs hX hP hS => ?_)
      obtain ⟨rfl, hM, hB, hF, hf9⟩ := hX
      have hfr := hfr.tr hf9 (by omega) (by omega)
      have eS : r_shares x y = (1, (0 : Int32)) := by unfold r_shares; rw [if_neg c_6, if_pos c_10] <;> first | rfl | decide
      exact W.iret (v := (0 : Int32)) hx hb hr (fun tE ht hW => ⟨⟨(0 : Int32), u3, rfl, by rw [eS]; exact ⟨⟨_, hM.self⟩, fun _ => rfl, hfr⟩, x_at ht hP⟩, hS.F ht⟩) hS.2.2 dX8_shares_32
    · refine lv_iload_n hx hb dX8_shares_13 rfl (lv_at hl 1 rfl) ?_
      refine lv_bipush (v := 100) hx hb dX8_shares_14 (by decide) ?_
      refine lv_icmp_gt (tgt := 27) hx hb dX8_shares_16 (by decide) (fun c_16 => ?_) (fun c_16 => ?_)
      · refine lv_aload_n hx hb dX8_shares_27 rfl (lv_at hl 0 rfl) ?_
        refine lv_iconst (v := 1) hx hb dX8_shares_28 (by decide) ?_
        refine x_callx (va_runV (As := [.int (1 : Int32)]) (rest := []) ⟨hx, hb, hml, hown, hts⟩ (c_X8_no l D cy lo n v1 q (by omega) (by omega) 0 hM hB hF (1 : Int32)) (cwV 1 hts gX8_shares_X8_no rfl rfl rfl (by decide +kernel) ⟨Nat.le_of_ble_eq_true rfl, Nat.le_of_ble_eq_true rfl⟩) (preV hP hK (x_recv (ci := 8) (q := (RX8, TX8, 8)) hK.1 hP (by omega) (by omega) rfl hM.self)) rfl rfl hl.1 rfl (lv_room (Nat.le_of_ble_eq_true rfl)) dX8_shares_29 ⟨Nat.le_of_ble_eq_true rfl, Nat.le_of_ble_eq_true rfl⟩) hS (fun r9 u4 H locs hX hP hS => ?_)
        obtain ⟨rfl, hM, hB, hF, hf9⟩ := hX
        have hfr := hfr.tr hf9 (by omega) (by omega)
        have eS : r_shares x y = (1, (0 : Int32)) := by unfold r_shares; rw [if_neg c_6, if_neg c_10, if_pos c_16] <;> first | rfl | decide
        exact W.iret (v := (0 : Int32)) hx hb hr (fun tE ht hW => ⟨⟨(0 : Int32), u4, rfl, by rw [eS]; exact ⟨⟨_, hM.self⟩, fun _ => rfl, hfr⟩, x_at ht hP⟩, hS.F ht⟩) hS.2.2 dX8_shares_32
      · refine lv_iload_n hx hb dX8_shares_19 rfl (lv_at hl 2 rfl) ?_
        refine lv_bipush (v := 100) hx hb dX8_shares_20 (by decide) ?_
        refine lv_iload_n hx hb dX8_shares_22 rfl (lv_at hl 1 rfl) ?_
        refine lv_isub hx hb dX8_shares_23 ?_
        refine lv_icmp_le (tgt := 33) hx hb dX8_shares_24 (by decide) (fun c_24 => ?_) (fun c_24 => ?_)
        · have hs8 := hM.self
          obtain ⟨ypo, hpo, opo⟩ := hM.outer
          obtain ⟨d_r0, h_r0, j_r0, z_r0⟩ := hM.row 0 (by omega)
          obtain ⟨d_r1, h_r1, j_r1, z_r1⟩ := hM.row 1 (by omega)
          obtain ⟨d_r2, h_r2, j_r2, z_r2⟩ := hM.row 2 (by omega)
          refine lv_aload_n hx hb dX8_shares_33 rfl (lv_at hl 0 rfl) ?_
          refine x_get (ref := RX8) (C := RX8) (T := TX8) (N := 8) (ci := 8) (v := .ref (q + 17)) hx hb hts iX8 hown hK.1 hP (by omega) (by omega) hs8 rfl 2 (by decide) (hts (.fieldLink RX8 18 "PoreFieldModel" "partners" "[[I") (by decide +kernel)) (fun _ h9 => h9) rfl dX8_shares_34 ?_
          refine lv_iconst (v := 0) hx hb dX8_shares_37 (by decide) ?_
          refine x_aaldA (b := (q + 18 + 0)) hx hb hK.1 hP (by omega) (by omega) 6 hpo rfl (cl_of_nI (i := 0) rfl (by omega)) (opo 0 (by omega)) (vp_in_of_nI (i := 0) rfl (by omega) (by omega)) dX8_shares_38 ?_
          refine lv_iconst (v := 0) hx hb dX8_shares_39 (by decide) ?_
          refine lv_iload_n hx hb dX8_shares_40 rfl (lv_at hl 1 rfl) ?_
          refine x_iast hx hb hK.1 hP hS (by omega) (by omega) 0 h_r0 rfl (cl_of_nI (i := 0) rfl (by omega)) (vp_in_of_nI (i := 0) rfl (by omega) (by omega)) dX8_shares_41 (fun H locs hP hS => ?_)
          refine x_gen hP (fun v5 e5 hP => ?_)
          have hF : FM cy v5 (q + 1) 0 300 := by rw [e5]; exact hF.o (by omega)
          have h_r0 : v5 (q + 18 + 0) = .inl (cy 0, 4, .inl (upd d_r0 0 x)) := by rw [e5]; exact xu_same _ _ _
          have h_r1 : v5 (q + 18 + 1) = .inl (cy 0, 4, .inl d_r1) := by rw [e5]; exact (xu_ne (by omega)).trans h_r1
          have h_r2 : v5 (q + 18 + 2) = .inl (cy 0, 4, .inl d_r2) := by rw [e5]; exact (xu_ne (by omega)).trans h_r2
          have hpo : v5 (q + 17) = .inl (cy 6, 3, .inr (.inr (.inr (.inr ypo)))) := by rw [e5]; exact (xu_ne (by omega)).trans hpo
          have hs8 : v5 q = F8 q 0 5 0 0 0 := by rw [e5]; exact (xu_ne (by omega)).trans hs8
          have hfr : fr q 22 w v5 := by rw [e5]; exact hfr.up (by omega) (by omega)
          refine lv_aload_n hx hb dX8_shares_42 rfl (lv_at hl 0 rfl) ?_
          refine x_get (ref := RX8) (C := RX8) (T := TX8) (N := 8) (ci := 8) (v := .ref (q + 17)) hx hb hts iX8 hown hK.1 hP (by omega) (by omega) hs8 rfl 2 (by decide) (hts (.fieldLink RX8 18 "PoreFieldModel" "partners" "[[I") (by decide +kernel)) (fun _ h9 => h9) rfl dX8_shares_43 ?_
          refine lv_iconst (v := 1) hx hb dX8_shares_46 (by decide) ?_
          refine x_aaldA (b := (q + 18 + 1)) hx hb hK.1 hP (by omega) (by omega) 6 hpo rfl (cl_of_nI (i := 1) rfl (by omega)) (opo 1 (by omega)) (vp_in_of_nI (i := 1) rfl (by omega) (by omega)) dX8_shares_47 ?_
          refine lv_iconst (v := 0) hx hb dX8_shares_48 (by decide) ?_
          refine lv_iload_n hx hb dX8_shares_49 rfl (lv_at hl 2 rfl) ?_
          refine x_iast hx hb hK.1 hP hS (by omega) (by omega) 0 h_r1 rfl (cl_of_nI (i := 0) rfl (by omega)) (vp_in_of_nI (i := 0) rfl (by omega) (by omega)) dX8_shares_50 (fun H locs hP hS => ?_)
          refine x_gen hP (fun v6 e6 hP => ?_)
          have hF : FM cy v6 (q + 1) 0 300 := by rw [e6]; exact hF.o (by omega)
          have h_r0 : v6 (q + 18 + 0) = .inl (cy 0, 4, .inl (upd d_r0 0 x)) := by rw [e6]; exact (xu_ne (by omega)).trans h_r0
          have h_r1 : v6 (q + 18 + 1) = .inl (cy 0, 4, .inl (upd d_r1 0 y)) := by rw [e6]; exact xu_same _ _ _
          have h_r2 : v6 (q + 18 + 2) = .inl (cy 0, 4, .inl d_r2) := by rw [e6]; exact (xu_ne (by omega)).trans h_r2
          have hpo : v6 (q + 17) = .inl (cy 6, 3, .inr (.inr (.inr (.inr ypo)))) := by rw [e6]; exact (xu_ne (by omega)).trans hpo
          have hs8 : v6 q = F8 q 0 5 0 0 0 := by rw [e6]; exact (xu_ne (by omega)).trans hs8
          have hfr : fr q 22 w v6 := by rw [e6]; exact hfr.up (by omega) (by omega)
          refine lv_aload_n hx hb dX8_shares_51 rfl (lv_at hl 0 rfl) ?_
          refine x_get (ref := RX8) (C := RX8) (T := TX8) (N := 8) (ci := 8) (v := .ref (q + 17)) hx hb hts iX8 hown hK.1 hP (by omega) (by omega) hs8 rfl 2 (by decide) (hts (.fieldLink RX8 18 "PoreFieldModel" "partners" "[[I") (by decide +kernel)) (fun _ h9 => h9) rfl dX8_shares_52 ?_
          refine lv_iconst (v := 2) hx hb dX8_shares_55 (by decide) ?_
          refine x_aaldA (b := (q + 18 + 2)) hx hb hK.1 hP (by omega) (by omega) 6 hpo rfl (cl_of_nI (i := 2) rfl (by omega)) (opo 2 (by omega)) (vp_in_of_nI (i := 2) rfl (by omega) (by omega)) dX8_shares_56 ?_
          refine lv_iconst (v := 0) hx hb dX8_shares_57 (by decide) ?_
          refine lv_bipush (v := 100) hx hb dX8_shares_58 (by decide) ?_
          refine lv_iload_n hx hb dX8_shares_60 rfl (lv_at hl 1 rfl) ?_
          refine lv_isub hx hb dX8_shares_61 ?_
          refine lv_iload_n hx hb dX8_shares_62 rfl (lv_at hl 2 rfl) ?_
          refine lv_isub hx hb dX8_shares_63 ?_
          refine x_iast hx hb hK.1 hP hS (by omega) (by omega) 0 h_r2 rfl (cl_of_nI (i := 0) rfl (by omega)) (vp_in_of_nI (i := 0) rfl (by omega) (by omega)) dX8_shares_64 (fun H locs hP hS => ?_)
          refine x_gen hP (fun v7 e7 hP => ?_)
          have hF : FM cy v7 (q + 1) 0 300 := by rw [e7]; exact hF.o (by omega)
          have h_r0 : v7 (q + 18 + 0) = .inl (cy 0, 4, .inl (upd d_r0 0 x)) := by rw [e7]; exact (xu_ne (by omega)).trans h_r0
          have h_r1 : v7 (q + 18 + 1) = .inl (cy 0, 4, .inl (upd d_r1 0 y)) := by rw [e7]; exact (xu_ne (by omega)).trans h_r1
          have h_r2 : v7 (q + 18 + 2) = .inl (cy 0, 4, .inl (upd d_r2 0 (((100 : Int32) - x) - y))) := by rw [e7]; exact xu_same _ _ _
          have hpo : v7 (q + 17) = .inl (cy 6, 3, .inr (.inr (.inr (.inr ypo)))) := by rw [e7]; exact (xu_ne (by omega)).trans hpo
          have hs8 : v7 q = F8 q 0 5 0 0 0 := by rw [e7]; exact (xu_ne (by omega)).trans hs8
          have hfr : fr q 22 w v7 := by rw [e7]; exact hfr.up (by omega) (by omega)
          refine lv_aload_n hx hb dX8_shares_65 rfl (lv_at hl 0 rfl) ?_
          refine x_get (ref := RX8) (C := RX8) (T := TX8) (N := 8) (ci := 8) (v := .ref (q + 17)) hx hb hts iX8 hown hK.1 hP (by omega) (by omega) hs8 rfl 2 (by decide) (hts (.fieldLink RX8 18 "PoreFieldModel" "partners" "[[I") (by decide +kernel)) (fun _ h9 => h9) rfl dX8_shares_66 ?_
          refine lv_iconst (v := 2) hx hb dX8_shares_69 (by decide) ?_
          refine x_aaldA (b := (q + 18 + 2)) hx hb hK.1 hP (by omega) (by omega) 6 hpo rfl (cl_of_nI (i := 2) rfl (by omega)) (opo 2 (by omega)) (vp_in_of_nI (i := 2) rfl (by omega) (by omega)) dX8_shares_70 ?_
          refine lv_iconst (v := 0) hx hb dX8_shares_71 (by decide) ?_
          refine x_iald hx hb hK.1 hP (by omega) (by omega) 0 h_r2 rfl (cl_of_nI (i := 0) rfl (by omega)) (vp_in_of_nI (i := 0) rfl (by omega) (by omega)) dX8_shares_72 ?_
          refine x_top (v' := (((100 : Int32) - x) - y)) (by simp [upd]) ?_
          have eS : r_shares x y = (0, (((100 : Int32) - x) - y)) := by unfold r_shares; rw [if_neg c_6, if_neg c_10, if_neg c_16, if_pos c_24]
          exact W.iret (v := (((100 : Int32) - x) - y)) hx hb hr (fun tE ht hW => ⟨⟨(((100 : Int32) - x) - y), v7, rfl, by rw [eS]; exact ⟨⟨_, hs8⟩, fun _ => rfl, hfr⟩, x_at ht hP⟩, hS.F ht⟩) hS.2.2 dX8_shares_73
        · refine lv_aload_n hx hb dX8_shares_27 rfl (lv_at hl 0 rfl) ?_
          refine lv_iconst (v := 1) hx hb dX8_shares_28 (by decide) ?_
          refine x_callx (va_runV (As := [.int (1 : Int32)]) (rest := []) ⟨hx, hb, hml, hown, hts⟩ (c_X8_no l D cy lo n v1 q (by omega) (by omega) 0 hM hB hF (1 : Int32)) (cwV 1 hts gX8_shares_X8_no rfl rfl rfl (by decide +kernel) ⟨Nat.le_of_ble_eq_true rfl, Nat.le_of_ble_eq_true rfl⟩) (preV hP hK (x_recv (ci := 8) (q := (RX8, TX8, 8)) hK.1 hP (by omega) (by omega) rfl hM.self)) rfl rfl hl.1 rfl (lv_room (Nat.le_of_ble_eq_true rfl)) dX8_shares_29 ⟨Nat.le_of_ble_eq_true rfl, Nat.le_of_ble_eq_true rfl⟩) hS (fun r9 u8 H locs hX hP hS => ?_)
          obtain ⟨rfl, hM, hB, hF, hf9⟩ := hX
          have hfr := hfr.tr hf9 (by omega) (by omega)
          have eS : r_shares x y = (1, (0 : Int32)) := by unfold r_shares; rw [if_neg c_6, if_neg c_10, if_neg c_16, if_neg c_24] <;> first | rfl | decide
          exact W.iret (v := (0 : Int32)) hx hb hr (fun tE ht hW => ⟨⟨(0 : Int32), u8, rfl, by rw [eS]; exact ⟨⟨_, hM.self⟩, fun _ => rfl, hfr⟩, x_at ht hP⟩, hS.F ht⟩) hS.2.2 dX8_shares_32

def r_cell (x y z za zb : Int32) : Int32 × Int32 := if 0 ≤ x ∧ x ≤ 15 then (if 10 ≤ y ∧ y ≤ 90 then (if 0 ≤ z ∧ z ≤ 99 then (if 0 ≤ za ∧ za ≤ 99 then (if 0 ≤ zb ∧ zb ≤ 99 then (0, 100 * (z + za + zb) / y) else (2, 0)) else (2, 0)) else (2, 0)) else (2, 0)) else (1, 0)
set_option maxRecDepth 100000 in
set_option maxHeartbeats 1000000 in
/-- cell -/
theorem c_X8_cell (l : Launch) (D : va_G) (cy : Nat → ClassId) (lo n : Nat) (w : Nat → va_E) (q : Nat) (h1 : lo ≤ q) (h2 : q + 22 ≤ lo + n) (th : Int32) (hM : MM cy w q th 5 0 0 0) (hB : LB cy w q) (hF : FM cy w (q + 1) 0 300) (x y z za zb : Int32) : Met l yX8_cell wsX8_cell ({ frames := 2, cells := 0, slots := 0, locals := 42 }) (PcW D cy lo n w [.ref q, .int x, .int y, .int z, .int za, .int zb]) (QR D lo n q w (r_cell x y z za zb)) 0 0 (fun q : Nat => lo ≤ q) := by
  refine Met.ofW (cc := cX8_cell) (maxL := 6) (ret := (some .int)) (by decide) rfl ?_
  intro p e s m args below meth c s₁ B hml hv
  obtain ⟨rfl, hP, hK, hS⟩ := x_entry hv
  have hx := B.exec
  have hb := B.bytes
  have hr := B.returns
  have hts := atoms_spec (ws := wsX8_cell) B.pre
  have hown : s.vm.findClass RX8 = some m.cls := findClass_of_methodNamed B.named
  have hlocks := B.notSynchronized
  have iX7 : ∀ w ∈ u_ws RX7 TX7 14, w ∈ wsX8_cell := by decide +kernel
  have iX8 : ∀ w ∈ u_ws RX8 TX8 8, w ∈ wsX8_cell := by decide +kernel
  have hl := lv_entry ([.ref q, .int x, .int y, .int z, .int za, .int zb]) (n := 6) (Nat.le_of_ble_eq_true rfl)
  rw [lg_entry_eq]
  generalize (lg_sl ([.ref q, .int x, .int y, .int z, .int za, .int zb]) ++ List.replicate (6 - (lg_sl ([.ref q, .int x, .int y, .int z, .int za, .int zb])).length) Slot.unset).toArray = ls at hl ⊢
  have hl : lv_has ls 6 [(0, .ref q), (1, .int x), (2, .int y), (3, .int z), (4, .int za), (5, .int zb)] := hl
  have hfr : fr q 22 w w := fr.rf
  refine lv_aload_n hx hb dX8_cell_0 rfl (lv_at hl 0 rfl) ?_
  refine lv_iconst (v := 0) hx hb dX8_cell_1 (by decide) ?_
  refine x_put (ty := tyX8 0) (ref := RX8) (C := RX8) (T := TX8) (N := 8) (ci := 8) (v := .int (0 : Int32)) hx hb hts iX8 tyX8 tyX8_ok nmX8 hown hK.1 hP hS (by omega) (by omega) hM.self rfl 0 (by decide) (hts (.fieldLink RX8 29 "PoreFieldModel" "thrown" "I") (by decide +kernel)) (fun _ h9 => h9) rfl (by decide +kernel) rfl rfl (Nat.le_of_ble_eq_true rfl) dX8_cell_2 (fun H locs hP hS => ?_)
  refine x_gen hP (fun v1 e1 hP => ?_)
  have hF : FM cy v1 (q + 1) 0 300 := by rw [e1]; exact hF.o (by omega)
  have hM : MM cy v1 q 0 5 0 0 0 := by rw [e1]; exact hM.up_self (th' := 0) (pr' := 5) (bk' := 0) (bo' := 0) (bw' := 0)
  have hB : LB cy v1 q := by rw [e1]; exact hB.o (by omega)
  have hfr : fr q 22 w v1 := by rw [e1]; exact hfr.up (by omega) (by omega)
  refine lv_iload_n hx hb dX8_cell_5 rfl (lv_at hl 1 rfl) ?_
  refine x_calli (va_runS (As := [.int x]) (rest := []) ⟨hx, hb, hml, hown, hts⟩ (c_X8_isCell l D cy lo n v1 x) (va_cwS 1 hts gX8_cell_X8_isCell rfl rfl rfl (by decide +kernel) ⟨Nat.le_of_ble_eq_true rfl, Nat.le_of_ble_eq_true rfl⟩) (preS hP hK) rfl rfl hl.1 rfl (lv_room (Nat.le_of_ble_eq_true rfl)) dX8_cell_6 ⟨Nat.le_of_ble_eq_true rfl, Nat.le_of_ble_eq_true rfl⟩) hS (fun H locs hP hS => ?_)
  by_cases c_6 : 0 ≤ x ∧ x ≤ 15
  · refine x_top (v' := (1 : Int32)) (if_pos c_6) ?_
    obtain ⟨xi, h_xi, e_xi⟩ := nI_of2 (n := 15) (by decide) (Int32.not_lt.mpr (Int32.le_trans (by decide) c_6.1)) c_6.2
    subst e_xi
    refine lv_if_ne (tgt := 18) hx hb dX8_cell_9 (by decide) (fun _ => ?_) (fun h => absurd h (by decide))
    refine lv_iload_n hx hb dX8_cell_18 rfl (lv_at hl 2 rfl) ?_
    refine lv_bipush (v := 10) hx hb dX8_cell_19 (by decide) ?_
    refine lv_bipush (v := 90) hx hb dX8_cell_21 (by decide) ?_
    refine x_calli (va_runS (As := [.int y, .int (10 : Int32), .int (90 : Int32)]) (rest := []) ⟨hx, hb, hml, hown, hts⟩ (c_X8_in l D cy lo n v1 y (10 : Int32) (90 : Int32)) (va_cwS 3 hts gX8_cell_X8_in rfl rfl rfl (by decide +kernel) ⟨Nat.le_of_ble_eq_true rfl, Nat.le_of_ble_eq_true rfl⟩) (preS hP hK) rfl rfl hl.1 rfl (lv_room (Nat.le_of_ble_eq_true rfl)) dX8_cell_23 ⟨Nat.le_of_ble_eq_true rfl, Nat.le_of_ble_eq_true rfl⟩) hS (fun H locs hP hS => ?_)
    by_cases c_23 : (10 : Int32) ≤ y ∧ y ≤ (90 : Int32)
    · refine x_top (v' := (1 : Int32)) (if_pos c_23) ?_
      refine lv_if_eq (tgt := 61) hx hb dX8_cell_26 (by decide) (fun h => absurd h (by decide)) (fun _ => ?_)
      refine lv_iload_n hx hb dX8_cell_29 rfl (lv_at hl 3 rfl) ?_
      refine lv_iconst (v := 0) hx hb dX8_cell_30 (by decide) ?_
      refine lv_bipush (v := 99) hx hb dX8_cell_31 (by decide) ?_
      refine x_calli (va_runS (As := [.int z, .int (0 : Int32), .int (99 : Int32)]) (rest := []) ⟨hx, hb, hml, hown, hts⟩ (c_X8_in l D cy lo n v1 z (0 : Int32) (99 : Int32)) (va_cwS 3 hts gX8_cell_X8_in rfl rfl rfl (by decide +kernel) ⟨Nat.le_of_ble_eq_true rfl, Nat.le_of_ble_eq_true rfl⟩) (preS hP hK) rfl rfl hl.1 rfl (lv_room (Nat.le_of_ble_eq_true rfl)) dX8_cell_33 ⟨Nat.le_of_ble_eq_true rfl, Nat.le_of_ble_eq_true rfl⟩) hS (fun H locs hP hS => ?_)
      by_cases c_33 : (0 : Int32) ≤ z ∧ z ≤ (99 : Int32)
      · refine x_top (v' := (1 : Int32)) (if_pos c_33) ?_
        refine lv_if_eq (tgt := 61) hx hb dX8_cell_36 (by decide) (fun h => absurd h (by decide)) (fun _ => ?_)
        refine lv_iload hx hb dX8_cell_39 (lv_at hl 4 rfl) ?_
        refine lv_iconst (v := 0) hx hb dX8_cell_41 (by decide) ?_
        refine lv_bipush (v := 99) hx hb dX8_cell_42 (by decide) ?_
        refine x_calli (va_runS (As := [.int za, .int (0 : Int32), .int (99 : Int32)]) (rest := []) ⟨hx, hb, hml, hown, hts⟩ (c_X8_in l D cy lo n v1 za (0 : Int32) (99 : Int32)) (va_cwS 3 hts gX8_cell_X8_in rfl rfl rfl (by decide +kernel) ⟨Nat.le_of_ble_eq_true rfl, Nat.le_of_ble_eq_true rfl⟩) (preS hP hK) rfl rfl hl.1 rfl (lv_room (Nat.le_of_ble_eq_true rfl)) dX8_cell_44 ⟨Nat.le_of_ble_eq_true rfl, Nat.le_of_ble_eq_true rfl⟩) hS (fun H locs hP hS => ?_)
        by_cases c_44 : (0 : Int32) ≤ za ∧ za ≤ (99 : Int32)
        · refine x_top (v' := (1 : Int32)) (if_pos c_44) ?_
          refine lv_if_eq (tgt := 61) hx hb dX8_cell_47 (by decide) (fun h => absurd h (by decide)) (fun _ => ?_)
          refine lv_iload hx hb dX8_cell_50 (lv_at hl 5 rfl) ?_
          refine lv_iconst (v := 0) hx hb dX8_cell_52 (by decide) ?_
          refine lv_bipush (v := 99) hx hb dX8_cell_53 (by decide) ?_
          refine x_calli (va_runS (As := [.int zb, .int (0 : Int32), .int (99 : Int32)]) (rest := []) ⟨hx, hb, hml, hown, hts⟩ (c_X8_in l D cy lo n v1 zb (0 : Int32) (99 : Int32)) (va_cwS 3 hts gX8_cell_X8_in rfl rfl rfl (by decide +kernel) ⟨Nat.le_of_ble_eq_true rfl, Nat.le_of_ble_eq_true rfl⟩) (preS hP hK) rfl rfl hl.1 rfl (lv_room (Nat.le_of_ble_eq_true rfl)) dX8_cell_55 ⟨Nat.le_of_ble_eq_true rfl, Nat.le_of_ble_eq_true rfl⟩) hS (fun H locs hP hS => ?_)
          by_cases c_55 : (0 : Int32) ≤ zb ∧ zb ≤ (99 : Int32)
          · refine x_top (v' := (1 : Int32)) (if_pos c_55) ?_
            refine lv_if_ne (tgt := 67) hx hb dX8_cell_58 (by decide) (fun _ => ?_) (fun h => absurd h (by decide))
            have hs7 := hF.self
            obtain ⟨d_room, h_room, k_room⟩ := hF.room
            obtain ⟨d_has, h_has, k_has⟩ := hF.has
            refine lv_aload_n hx hb dX8_cell_67 rfl (lv_at hl 0 rfl) ?_
            refine x_get (ref := RX8) (C := RX8) (T := TX8) (N := 8) (ci := 8) (v := .ref (q + 1)) hx hb hts iX8 hown hK.1 hP (by omega) (by omega) hM.self rfl 1 (by decide) (hts (.fieldLink RX8 10 "PoreFieldModel" "field" "LPoreFieldModel$Field;") (by decide +kernel)) (fun _ h9 => h9) rfl dX8_cell_68 ?_
            refine x_get (ref := RX7) (C := RX7) (T := TX7) (N := 14) (ci := 7) (v := .ref ((q + 1) + 1)) hx hb hts iX7 hown hK.1 hP (by omega) (by omega) hs7 rfl 0 (by decide) (hts (.fieldLink RX8 47 "PoreFieldModel$Field" "room" "[I") (by decide +kernel)) (fun _ h9 => h9) rfl dX8_cell_71 ?_
            refine lv_iload_n hx hb dX8_cell_74 rfl (lv_at hl 1 rfl) ?_
            refine lv_iload_n hx hb dX8_cell_75 rfl (lv_at hl 2 rfl) ?_
            refine x_iast hx hb hK.1 hP hS (by omega) (by omega) 0 h_room rfl (cl_of_nI (i := xi) rfl (by omega)) (vp_in_of_nI (i := xi) rfl (by omega) (by omega)) dX8_cell_76 (fun H locs hP hS => ?_)
            refine x_gen hP (fun v2 e2 hP => ?_)
            have hM : MM cy v2 q 0 5 0 0 0 := by rw [e2]; exact hM.o (by omega) (by omega) (by omega)
            have hB : LB cy v2 q := by rw [e2]; exact hB.o (by omega)
            have h_room : v2 ((q + 1) + 1) = .inl (cy 0, 16, .inl (upd d_room xi y)) := by rw [e2]; exact xu_same _ _ _
            have h_has : v2 ((q + 1) + 2) = .inl (cy 0, 48, .inl d_has) := by rw [e2]; exact (xu_ne (by omega)).trans h_has
            have hs7 : v2 (q + 1) = .inr (7, [.ref ((q + 1) + 1), .ref ((q + 1) + 2), .ref ((q + 1) + 3), .ref ((q + 1) + 4), .ref ((q + 1) + 5), .ref ((q + 1) + 12), .ref ((q + 1) + 13), .ref ((q + 1) + 14), .ref ((q + 1) + 15), .int (0 : Int32), .int (0 : Int32), .int (10 : Int32), .int (300 : Int32), .int (0 : Int32)]) := by rw [e2]; exact (xu_ne (by omega)).trans hs7
            have hfr : fr q 22 w v2 := by rw [e2]; exact hfr.up (by omega) (by omega)
            refine lv_aload_n hx hb dX8_cell_77 rfl (lv_at hl 0 rfl) ?_
            refine x_get (ref := RX8) (C := RX8) (T := TX8) (N := 8) (ci := 8) (v := .ref (q + 1)) hx hb hts iX8 hown hK.1 hP (by omega) (by omega) hM.self rfl 1 (by decide) (hts (.fieldLink RX8 10 "PoreFieldModel" "field" "LPoreFieldModel$Field;") (by decide +kernel)) (fun _ h9 => h9) rfl dX8_cell_78 ?_
            refine x_get (ref := RX7) (C := RX7) (T := TX7) (N := 14) (ci := 7) (v := .ref ((q + 1) + 2)) hx hb hts iX7 hown hK.1 hP (by omega) (by omega) hs7 rfl 1 (by decide) (hts (.fieldLink RX8 50 "PoreFieldModel$Field" "has" "[I") (by decide +kernel)) (fun _ h9 => h9) rfl dX8_cell_81 ?_
            refine lv_iconst (v := 3) hx hb dX8_cell_84 (by decide) ?_
            refine lv_iload_n hx hb dX8_cell_85 rfl (lv_at hl 1 rfl) ?_
            refine lv_imul hx hb dX8_cell_86 ?_
            refine x_top (v' := (nI (3 * xi))) (nI_m3 _) ?_
            refine lv_iload_n hx hb dX8_cell_87 rfl (lv_at hl 3 rfl) ?_
            refine x_iast hx hb hK.1 hP hS (by omega) (by omega) 0 h_has rfl (cl_of_nI (i := 3 * xi) rfl (by omega)) (vp_in_of_nI (i := 3 * xi) rfl (by omega) (by omega)) dX8_cell_88 (fun H locs hP hS => ?_)
            refine x_gen hP (fun v3 e3 hP => ?_)
            have hM : MM cy v3 q 0 5 0 0 0 := by rw [e3]; exact hM.o (by omega) (by omega) (by omega)
            have hB : LB cy v3 q := by rw [e3]; exact hB.o (by omega)
            have h_room : v3 ((q + 1) + 1) = .inl (cy 0, 16, .inl (upd d_room xi y)) := by rw [e3]; exact (xu_ne (by omega)).trans h_room
            have h_has : v3 ((q + 1) + 2) = .inl (cy 0, 48, .inl (upd d_has (3 * xi) z)) := by rw [e3]; exact xu_same _ _ _
            have hs7 : v3 (q + 1) = .inr (7, [.ref ((q + 1) + 1), .ref ((q + 1) + 2), .ref ((q + 1) + 3), .ref ((q + 1) + 4), .ref ((q + 1) + 5), .ref ((q + 1) + 12), .ref ((q + 1) + 13), .ref ((q + 1) + 14), .ref ((q + 1) + 15), .int (0 : Int32), .int (0 : Int32), .int (10 : Int32), .int (300 : Int32), .int (0 : Int32)]) := by rw [e3]; exact (xu_ne (by omega)).trans hs7
            have hfr : fr q 22 w v3 := by rw [e3]; exact hfr.up (by omega) (by omega)
            refine lv_aload_n hx hb dX8_cell_89 rfl (lv_at hl 0 rfl) ?_
            refine x_get (ref := RX8) (C := RX8) (T := TX8) (N := 8) (ci := 8) (v := .ref (q + 1)) hx hb hts iX8 hown hK.1 hP (by omega) (by omega) hM.self rfl 1 (by decide) (hts (.fieldLink RX8 10 "PoreFieldModel" "field" "LPoreFieldModel$Field;") (by decide +kernel)) (fun _ h9 => h9) rfl dX8_cell_90 ?_
            refine x_get (ref := RX7) (C := RX7) (T := TX7) (N := 14) (ci := 7) (v := .ref ((q + 1) + 2)) hx hb hts iX7 hown hK.1 hP (by omega) (by omega) hs7 rfl 1 (by decide) (hts (.fieldLink RX8 50 "PoreFieldModel$Field" "has" "[I") (by decide +kernel)) (fun _ h9 => h9) rfl dX8_cell_93 ?_
            refine lv_iconst (v := 3) hx hb dX8_cell_96 (by decide) ?_
            refine lv_iload_n hx hb dX8_cell_97 rfl (lv_at hl 1 rfl) ?_
            refine lv_imul hx hb dX8_cell_98 ?_
            refine x_top (v' := (nI (3 * xi))) (nI_m3 _) ?_
            refine lv_iconst (v := 1) hx hb dX8_cell_99 (by decide) ?_
            refine lv_iadd hx hb dX8_cell_100 ?_
            refine x_top (v' := (nI (3 * xi + 1))) (nI_add _ _) ?_
            refine lv_iload hx hb dX8_cell_101 (lv_at hl 4 rfl) ?_
            refine x_iast hx hb hK.1 hP hS (by omega) (by omega) 0 h_has rfl (cl_of_nI (i := 3 * xi + 1) rfl (by omega)) (vp_in_of_nI (i := 3 * xi + 1) rfl (by omega) (by omega)) dX8_cell_103 (fun H locs hP hS => ?_)
            refine x_gen hP (fun v4 e4 hP => ?_)
            have hM : MM cy v4 q 0 5 0 0 0 := by rw [e4]; exact hM.o (by omega) (by omega) (by omega)
            have hB : LB cy v4 q := by rw [e4]; exact hB.o (by omega)
            have h_room : v4 ((q + 1) + 1) = .inl (cy 0, 16, .inl (upd d_room xi y)) := by rw [e4]; exact (xu_ne (by omega)).trans h_room
            have h_has : v4 ((q + 1) + 2) = .inl (cy 0, 48, .inl (upd (upd d_has (3 * xi) z) (3 * xi + 1) za)) := by rw [e4]; exact xu_same _ _ _
            have hs7 : v4 (q + 1) = .inr (7, [.ref ((q + 1) + 1), .ref ((q + 1) + 2), .ref ((q + 1) + 3), .ref ((q + 1) + 4), .ref ((q + 1) + 5), .ref ((q + 1) + 12), .ref ((q + 1) + 13), .ref ((q + 1) + 14), .ref ((q + 1) + 15), .int (0 : Int32), .int (0 : Int32), .int (10 : Int32), .int (300 : Int32), .int (0 : Int32)]) := by rw [e4]; exact (xu_ne (by omega)).trans hs7
            have hfr : fr q 22 w v4 := by rw [e4]; exact hfr.up (by omega) (by omega)
            refine lv_aload_n hx hb dX8_cell_104 rfl (lv_at hl 0 rfl) ?_
            refine x_get (ref := RX8) (C := RX8) (T := TX8) (N := 8) (ci := 8) (v := .ref (q + 1)) hx hb hts iX8 hown hK.1 hP (by omega) (by omega) hM.self rfl 1 (by decide) (hts (.fieldLink RX8 10 "PoreFieldModel" "field" "LPoreFieldModel$Field;") (by decide +kernel)) (fun _ h9 => h9) rfl dX8_cell_105 ?_
            refine x_get (ref := RX7) (C := RX7) (T := TX7) (N := 14) (ci := 7) (v := .ref ((q + 1) + 2)) hx hb hts iX7 hown hK.1 hP (by omega) (by omega) hs7 rfl 1 (by decide) (hts (.fieldLink RX8 50 "PoreFieldModel$Field" "has" "[I") (by decide +kernel)) (fun _ h9 => h9) rfl dX8_cell_108 ?_
            refine lv_iconst (v := 3) hx hb dX8_cell_111 (by decide) ?_
            refine lv_iload_n hx hb dX8_cell_112 rfl (lv_at hl 1 rfl) ?_
            refine lv_imul hx hb dX8_cell_113 ?_
            refine x_top (v' := (nI (3 * xi))) (nI_m3 _) ?_
            refine lv_iconst (v := 2) hx hb dX8_cell_114 (by decide) ?_
            refine lv_iadd hx hb dX8_cell_115 ?_
            refine x_top (v' := (nI (3 * xi + 2))) (nI_add _ _) ?_
            refine lv_iload hx hb dX8_cell_116 (lv_at hl 5 rfl) ?_
            refine x_iast hx hb hK.1 hP hS (by omega) (by omega) 0 h_has rfl (cl_of_nI (i := 3 * xi + 2) rfl (by omega)) (vp_in_of_nI (i := 3 * xi + 2) rfl (by omega) (by omega)) dX8_cell_118 (fun H locs hP hS => ?_)
            refine x_gen hP (fun v5 e5 hP => ?_)
            have hM : MM cy v5 q 0 5 0 0 0 := by rw [e5]; exact hM.o (by omega) (by omega) (by omega)
            have hB : LB cy v5 q := by rw [e5]; exact hB.o (by omega)
            have h_room : v5 ((q + 1) + 1) = .inl (cy 0, 16, .inl (upd d_room xi y)) := by rw [e5]; exact (xu_ne (by omega)).trans h_room
            have h_has : v5 ((q + 1) + 2) = .inl (cy 0, 48, .inl (upd (upd (upd d_has (3 * xi) z) (3 * xi + 1) za) (3 * xi + 2) zb)) := by rw [e5]; exact xu_same _ _ _
            have hs7 : v5 (q + 1) = .inr (7, [.ref ((q + 1) + 1), .ref ((q + 1) + 2), .ref ((q + 1) + 3), .ref ((q + 1) + 4), .ref ((q + 1) + 5), .ref ((q + 1) + 12), .ref ((q + 1) + 13), .ref ((q + 1) + 14), .ref ((q + 1) + 15), .int (0 : Int32), .int (0 : Int32), .int (10 : Int32), .int (300 : Int32), .int (0 : Int32)]) := by rw [e5]; exact (xu_ne (by omega)).trans hs7
            have hfr : fr q 22 w v5 := by rw [e5]; exact hfr.up (by omega) (by omega)
            refine lv_aload_n hx hb dX8_cell_119 rfl (lv_at hl 0 rfl) ?_
            refine x_get (ref := RX8) (C := RX8) (T := TX8) (N := 8) (ci := 8) (v := .ref (q + 1)) hx hb hts iX8 hown hK.1 hP (by omega) (by omega) hM.self rfl 1 (by decide) (hts (.fieldLink RX8 10 "PoreFieldModel" "field" "LPoreFieldModel$Field;") (by decide +kernel)) (fun _ h9 => h9) rfl dX8_cell_120 ?_
            refine lv_iload_n hx hb dX8_cell_123 rfl (lv_at hl 1 rfl) ?_
            refine x_calli (va_runV (As := [.int (nI xi)]) (rest := []) ⟨hx, hb, hml, hown, hts⟩ (c_X7_pressure l D cy lo n v5 (q + 1) (by omega) (by omega) 0 0 10 300 0 hs7 (upd (upd (upd d_has (3 * xi) z) (3 * xi + 1) za) (3 * xi + 2) zb) h_has (upd d_room xi y) h_room xi (by omega) (by rw [show (upd d_room xi y) xi = y from by simp [upd]]; intro h9; rw [h9] at c_23; exact absurd c_23.1 (by decide))) (cwV 1 hts gX8_cell_X7_pressure rfl rfl rfl (by decide +kernel) ⟨Nat.le_of_ble_eq_true rfl, Nat.le_of_ble_eq_true rfl⟩) (preV hP hK (x_recv (ci := 7) (q := (RX7, TX7, 14)) hK.1 hP (by omega) (by omega) rfl hs7)) rfl rfl hl.1 rfl (lv_room (Nat.le_of_ble_eq_true rfl)) dX8_cell_124 ⟨Nat.le_of_ble_eq_true rfl, Nat.le_of_ble_eq_true rfl⟩) hS (fun H locs hP hS => ?_)
            refine x_top (v' := (100 * (z + za + zb) / y)) (by simp [upd]) ?_
            have eS : r_cell (nI xi) y z za zb = (0, (100 * (z + za + zb) / y)) := by unfold r_cell; rw [if_pos c_6, if_pos c_23, if_pos c_33, if_pos c_44, if_pos c_55] <;> first | rfl | decide
            exact W.iret (v := (100 * (z + za + zb) / y)) hx hb hr (fun tE ht hW => ⟨⟨(100 * (z + za + zb) / y), v5, rfl, by rw [eS]; exact ⟨⟨_, hM.self⟩, fun _ => rfl, hfr⟩, x_at ht hP⟩, hS.F ht⟩) hS.2.2 dX8_cell_127
          · refine x_top (v' := (0 : Int32)) (if_neg c_55) ?_
            refine lv_if_ne (tgt := 67) hx hb dX8_cell_58 (by decide) (fun h => absurd (by decide) h) (fun _ => ?_)
            refine lv_aload_n hx hb dX8_cell_61 rfl (lv_at hl 0 rfl) ?_
            refine lv_iconst (v := 2) hx hb dX8_cell_62 (by decide) ?_
            refine x_callx (va_runV (As := [.int (2 : Int32)]) (rest := []) ⟨hx, hb, hml, hown, hts⟩ (c_X8_no l D cy lo n v1 q (by omega) (by omega) 0 hM hB hF (2 : Int32)) (cwV 1 hts gX8_cell_X8_no rfl rfl rfl (by decide +kernel) ⟨Nat.le_of_ble_eq_true rfl, Nat.le_of_ble_eq_true rfl⟩) (preV hP hK (x_recv (ci := 8) (q := (RX8, TX8, 8)) hK.1 hP (by omega) (by omega) rfl hM.self)) rfl rfl hl.1 rfl (lv_room (Nat.le_of_ble_eq_true rfl)) dX8_cell_63 ⟨Nat.le_of_ble_eq_true rfl, Nat.le_of_ble_eq_true rfl⟩) hS (fun r9 u6 H locs hX hP hS => ?_)
            obtain ⟨rfl, hM, hB, hF, hf9⟩ := hX
            have hfr := hfr.tr hf9 (by omega) (by omega)
            have eS : r_cell (nI xi) y z za zb = (2, (0 : Int32)) := by unfold r_cell; rw [if_pos c_6, if_pos c_23, if_pos c_33, if_pos c_44, if_neg c_55] <;> first | rfl | decide
            exact W.iret (v := (0 : Int32)) hx hb hr (fun tE ht hW => ⟨⟨(0 : Int32), u6, rfl, by rw [eS]; exact ⟨⟨_, hM.self⟩, fun _ => rfl, hfr⟩, x_at ht hP⟩, hS.F ht⟩) hS.2.2 dX8_cell_66
        · refine x_top (v' := (0 : Int32)) (if_neg c_44) ?_
          refine lv_if_eq (tgt := 61) hx hb dX8_cell_47 (by decide) (fun _ => ?_) (fun h => absurd (by decide) h)
          refine lv_aload_n hx hb dX8_cell_61 rfl (lv_at hl 0 rfl) ?_
          refine lv_iconst (v := 2) hx hb dX8_cell_62 (by decide) ?_
          refine x_callx (va_runV (As := [.int (2 : Int32)]) (rest := []) ⟨hx, hb, hml, hown, hts⟩ (c_X8_no l D cy lo n v1 q (by omega) (by omega) 0 hM hB hF (2 : Int32)) (cwV 1 hts gX8_cell_X8_no rfl rfl rfl (by decide +kernel) ⟨Nat.le_of_ble_eq_true rfl, Nat.le_of_ble_eq_true rfl⟩) (preV hP hK (x_recv (ci := 8) (q := (RX8, TX8, 8)) hK.1 hP (by omega) (by omega) rfl hM.self)) rfl rfl hl.1 rfl (lv_room (Nat.le_of_ble_eq_true rfl)) dX8_cell_63 ⟨Nat.le_of_ble_eq_true rfl, Nat.le_of_ble_eq_true rfl⟩) hS (fun r9 u7 H locs hX hP hS => ?_)
          obtain ⟨rfl, hM, hB, hF, hf9⟩ := hX
          have hfr := hfr.tr hf9 (by omega) (by omega)
          have eS : r_cell (nI xi) y z za zb = (2, (0 : Int32)) := by unfold r_cell; rw [if_pos c_6, if_pos c_23, if_pos c_33, if_neg c_44] <;> first | rfl | decide
          exact W.iret (v := (0 : Int32)) hx hb hr (fun tE ht hW => ⟨⟨(0 : Int32), u7, rfl, by rw [eS]; exact ⟨⟨_, hM.self⟩, fun _ => rfl, hfr⟩, x_at ht hP⟩, hS.F ht⟩) hS.2.2 dX8_cell_66
      · refine x_top (v' := (0 : Int32)) (if_neg c_33) ?_
        refine lv_if_eq (tgt := 61) hx hb dX8_cell_36 (by decide) (fun _ => ?_) (fun h => absurd (by decide) h)
        refine lv_aload_n hx hb dX8_cell_61 rfl (lv_at hl 0 rfl) ?_
        refine lv_iconst (v := 2) hx hb dX8_cell_62 (by decide) ?_
        refine x_callx (va_runV (As := [.int (2 : Int32)]) (rest := []) ⟨hx, hb, hml, hown, hts⟩ (c_X8_no l D cy lo n v1 q (by omega) (by omega) 0 hM hB hF (2 : Int32)) (cwV 1 hts gX8_cell_X8_no rfl rfl rfl (by decide +kernel) ⟨Nat.le_of_ble_eq_true rfl, Nat.le_of_ble_eq_true rfl⟩) (preV hP hK (x_recv (ci := 8) (q := (RX8, TX8, 8)) hK.1 hP (by omega) (by omega) rfl hM.self)) rfl rfl hl.1 rfl (lv_room (Nat.le_of_ble_eq_true rfl)) dX8_cell_63 ⟨Nat.le_of_ble_eq_true rfl, Nat.le_of_ble_eq_true rfl⟩) hS (fun r9 u8 H locs hX hP hS => ?_)
        obtain ⟨rfl, hM, hB, hF, hf9⟩ := hX
        have hfr := hfr.tr hf9 (by omega) (by omega)
        have eS : r_cell (nI xi) y z za zb = (2, (0 : Int32)) := by unfold r_cell; rw [if_pos c_6, if_pos c_23, if_neg c_33] <;> first | rfl | decide
        exact W.iret (v := (0 : Int32)) hx hb hr (fun tE ht hW => ⟨⟨(0 : Int32), u8, rfl, by rw [eS]; exact ⟨⟨_, hM.self⟩, fun _ => rfl, hfr⟩, x_at ht hP⟩, hS.F ht⟩) hS.2.2 dX8_cell_66
    · refine x_top (v' := (0 : Int32)) (if_neg c_23) ?_
      refine lv_if_eq (tgt := 61) hx hb dX8_cell_26 (by decide) (fun _ => ?_) (fun h => absurd (by decide) h)
      refine lv_aload_n hx hb dX8_cell_61 rfl (lv_at hl 0 rfl) ?_
      refine lv_iconst (v := 2) hx hb dX8_cell_62 (by decide) ?_
      refine x_callx (va_runV (As := [.int (2 : Int32)]) (rest := []) ⟨hx, hb, hml, hown, hts⟩ (c_X8_no l D cy lo n v1 q (by omega) (by omega) 0 hM hB hF (2 : Int32)) (cwV 1 hts gX8_cell_X8_no rfl rfl rfl (by decide +kernel) ⟨Nat.le_of_ble_eq_true rfl, Nat.le_of_ble_eq_true rfl⟩) (preV hP hK (x_recv (ci := 8) (q := (RX8, TX8, 8)) hK.1 hP (by omega) (by omega) rfl hM.self)) rfl rfl hl.1 rfl (lv_room (Nat.le_of_ble_eq_true rfl)) dX8_cell_63 ⟨Nat.le_of_ble_eq_true rfl, Nat.le_of_ble_eq_true rfl⟩) hS (fun r9 u9 H locs hX hP hS => ?_)
      obtain ⟨rfl, hM, hB, hF, hf9⟩ := hX
      have hfr := hfr.tr hf9 (by omega) (by omega)
      have eS : r_cell (nI xi) y z za zb = (2, (0 : Int32)) := by unfold r_cell; rw [if_pos c_6, if_neg c_23] <;> first | rfl | decide
      exact W.iret (v := (0 : Int32)) hx hb hr (fun tE ht hW => ⟨⟨(0 : Int32), u9, rfl, by rw [eS]; exact ⟨⟨_, hM.self⟩, fun _ => rfl, hfr⟩, x_at ht hP⟩, hS.F ht⟩) hS.2.2 dX8_cell_66
  · refine x_top (v' := (0 : Int32)) (if_neg c_6) ?_
    refine lv_if_ne (tgt := 18) hx hb dX8_cell_9 (by decide) (fun h => absurd (by decide) h) (fun _ => ?_)
    refine lv_aload_n hx hb dX8_cell_12 rfl (lv_at hl 0 rfl) ?_
    refine lv_iconst (v := 1) hx hb dX8_cell_13 (by decide) ?_
    refine x_callx (va_runV (As := [.int (1 : Int32)]) (rest := []) ⟨hx, hb, hml, hown, hts⟩ (c_X8_no l D cy lo n v1 q (by omega) (by omega) 0 hM hB hF (1 : Int32)) (cwV 1 hts gX8_cell_X8_no rfl rfl rfl (by decide +kernel) ⟨Nat.le_of_ble_eq_true rfl, Nat.le_of_ble_eq_true rfl⟩) (preV hP hK (x_recv (ci := 8) (q := (RX8, TX8, 8)) hK.1 hP (by omega) (by omega) rfl hM.self)) rfl rfl hl.1 rfl (lv_room (Nat.le_of_ble_eq_true rfl)) dX8_cell_14 ⟨Nat.le_of_ble_eq_true rfl, Nat.le_of_ble_eq_true rfl⟩) hS (fun r9 u10 H locs hX hP hS => ?_)
    obtain ⟨rfl, hM, hB, hF, hf9⟩ := hX
    have hfr := hfr.tr hf9 (by omega) (by omega)
    have eS : r_cell x y z za zb = (1, (0 : Int32)) := by unfold r_cell; rw [if_neg c_6] <;> first | rfl | decide
    exact W.iret (v := (0 : Int32)) hx hb hr (fun tE ht hW => ⟨⟨(0 : Int32), u10, rfl, by rw [eS]; exact ⟨⟨_, hM.self⟩, fun _ => rfl, hfr⟩, x_at ht hP⟩, hS.F ht⟩) hS.2.2 dX8_cell_17

def r_pass (x : Int32) : Int32 × Int32 := if 1 ≤ x ∧ x ≤ 24 then (0, 0) else (1, 0)
set_option maxRecDepth 100000 in
set_option maxHeartbeats 1000000 in
/-- pass -/
theorem c_X8_pass (l : Launch) (D : va_G) (cy : Nat → ClassId) (lo n : Nat) (w : Nat → va_E) (q : Nat) (h1 : lo ≤ q) (h2 : q + 22 ≤ lo + n) (th : Int32) (hM : MM cy w q th 5 0 0 0) (hB : LB cy w q) (hF : FM cy w (q + 1) 0 300) (x : Int32) : Met l yX8_pass wsX8_pass ({ frames := 4, cells := 0, slots := 0, locals := 105 }) (PcW D cy lo n w [.ref q, .int x]) (QR D lo n q w (r_pass x)) 0 0 (fun q : Nat => lo ≤ q) := by
  refine Met.ofW (cc := cX8_pass) (maxL := 10) (ret := (some .int)) (by decide) rfl ?_
  intro p e s m args below meth c s₁ B hml hv
  obtain ⟨rfl, hP, hK, hS⟩ := x_entry hv
  have hx := B.exec
  have hb := B.bytes
  have hr := B.returns
  have hts := atoms_spec (ws := wsX8_pass) B.pre
  have hown : s.vm.findClass RX8 = some m.cls := findClass_of_methodNamed B.named
  have hlocks := B.notSynchronized
  have iX8 : ∀ w ∈ u_ws RX8 TX8 8, w ∈ wsX8_pass := by decide +kernel
  have hl := lv_entry ([.ref q, .int x]) (n := 10) (Nat.le_of_ble_eq_true rfl)
  rw [lg_entry_eq]
  generalize (lg_sl ([.ref q, .int x]) ++ List.replicate (10 - (lg_sl ([.ref q, .int x])).length) Slot.unset).toArray = ls at hl ⊢
  have hl : lv_has ls 10 [(0, .ref q), (1, .int x)] := hl
  have hfr : fr q 22 w w := fr.rf
  refine lv_aload_n hx hb dX8_pass_0 rfl (lv_at hl 0 rfl) ?_
  refine lv_iconst (v := 0) hx hb dX8_pass_1 (by decide) ?_
  refine x_put (ty := tyX8 0) (ref := RX8) (C := RX8) (T := TX8) (N := 8) (ci := 8) (v := .int (0 : Int32)) hx hb hts iX8 tyX8 tyX8_ok nmX8 hown hK.1 hP hS (by omega) (by omega) hM.self rfl 0 (by decide) (hts (.fieldLink RX8 29 "PoreFieldModel" "thrown" "I") (by decide +kernel)) (fun _ h9 => h9) rfl (by decide +kernel) rfl rfl (Nat.le_of_ble_eq_true rfl) dX8_pass_2 (fun H locs hP hS => ?_)
  refine x_gen hP (fun v1 e1 hP => ?_)
  have hF : FM cy v1 (q + 1) 0 300 := by rw [e1]; exact hF.o (by omega)
  have hM : MM cy v1 q 0 5 0 0 0 := by rw [e1]; exact hM.up_self (th' := 0) (pr' := 5) (bk' := 0) (bo' := 0) (bw' := 0)
  have hB : LB cy v1 q := by rw [e1]; exact hB.o (by omega)
  have hfr : fr q 22 w v1 := by rw [e1]; exact hfr.up (by omega) (by omega)
  refine lv_iload_n hx hb dX8_pass_5 rfl (lv_at hl 1 rfl) ?_
  refine lv_iconst (v := 1) hx hb dX8_pass_6 (by decide) ?_
  refine lv_bipush (v := 24) hx hb dX8_pass_7 (by decide) ?_
  refine x_calli (va_runS (As := [.int x, .int (1 : Int32), .int (24 : Int32)]) (rest := []) ⟨hx, hb, hml, hown, hts⟩ (c_X8_in l D cy lo n v1 x (1 : Int32) (24 : Int32)) (va_cwS 3 hts gX8_pass_X8_in rfl rfl rfl (by decide +kernel) ⟨Nat.le_of_ble_eq_true rfl, Nat.le_of_ble_eq_true rfl⟩) (preS hP hK) rfl rfl hl.1 rfl (lv_room (Nat.le_of_ble_eq_true rfl)) dX8_pass_9 ⟨Nat.le_of_ble_eq_true rfl, Nat.le_of_ble_eq_true rfl⟩) hS (fun H locs hP hS => ?_)
  by_cases c_9 : (1 : Int32) ≤ x ∧ x ≤ (24 : Int32)
  · refine x_top (v' := (1 : Int32)) (if_pos c_9) ?_
    obtain ⟨xi, h_xi, e_xi⟩ := nI_of2 (n := 24) (by decide) (Int32.not_lt.mpr (Int32.le_trans (by decide) c_9.1)) c_9.2
    subst e_xi
    refine lv_if_ne (tgt := 21) hx hb dX8_pass_12 (by decide) (fun _ => ?_) (fun h => absurd h (by decide))
    refine lv_iconst (v := 0) hx hb dX8_pass_21 (by decide) ?_
    refine lv_istore_n (lv' := [(2, .int (0 : Int32)), (0, .ref q), (1, .int (nI xi))]) hx hb dX8_pass_22 rfl hl (by decide) rfl (fun ls hl => ?_)
    refine lv_iconst (v := 0) hx hb dX8_pass_23 (by decide) ?_
    refine lv_istore_n (lv' := [(3, .int (0 : Int32)), (2, .int (0 : Int32)), (0, .ref q), (1, .int (nI xi))]) hx hb dX8_pass_24 rfl hl (by decide) rfl (fun ls hl => ?_)
    have L1 : ∀ (r k : Nat) (H : Heap) (locs : List Loc) (ls : Array Slot) (vL1 : Nat → va_E), k + r = xi → lv_has ls 10 [(3, .int (nI k)), (2, .int (0 : Int32)), (0, .ref q), (1, .int (nI xi))] → MM cy vL1 q 0 5 0 0 0 → LB cy vL1 q → (∃ nw9, FM cy vL1 (q + 1) nw9 300) → fr q 22 w vL1 → va_P D vwCl (rl lo n vL1) H → va_S (fun q : Nat => lo ≤ q) s.heap H locs → W p l e (headSpec wsX8_pass ({ frames := 4, cells := 0, slots := 0, locals := 105 })).room s m (([.ref q, .int (nI xi)] : List Value).toArray) below meth c H locs 0 0 (MQ below (QR D lo n q w (r_pass (nI xi))) (([.ref q, .int (nI xi)] : List Value).toArray) s 0 0 (fun q : Nat => lo ≤ q)) (F0 m 25 ls []) := by
      intro r
      induction r with
      | zero =>
        intro k H locs ls vL1 hk hl hM hB hF hfr hP hS
        obtain ⟨nw9, hF⟩ := hF
        have e9 : k = xi := by omega
        subst k
        refine lv_iload_n hx hb dX8_pass_25 rfl (lv_at hl 0 rfl) ?_
        refine lv_iload_n hx hb dX8_pass_26 rfl (lv_at hl 3 rfl) ?_
        refine lv_icmp_ge (tgt := 133) hx hb dX8_pass_27 (by decide) (fun _ => ?_) (fun h => absurd ((br_le (show (nI xi) = nI xi from rfl) (show (nI xi) = nI xi from rfl) (by omega) (by omega)).mpr (by omega)) h)
        refine lv_iload_n hx hb dX8_pass_133 rfl (lv_at hl 1 rfl) ?_
        have eS : r_pass (nI xi) = (0, (0 : Int32)) := by unfold r_pass; rw [if_pos c_9] <;> first | rfl | decide
        exact W.iret (v := (0 : Int32)) hx hb hr (fun tE ht hW => ⟨⟨(0 : Int32), vL1, rfl, by rw [eS]; exact ⟨⟨_, hM.self⟩, fun _ => rfl, hfr⟩, x_at ht hP⟩, hS.F ht⟩) hS.2.2 dX8_pass_134
      | succ r ih =>
        intro k H locs ls vL1 hk hl hM hB hF hfr hP hS
        obtain ⟨nw9, hF⟩ := hF
        refine lv_iload_n hx hb dX8_pass_25 rfl (lv_at hl 0 rfl) ?_
        refine lv_iload_n hx hb dX8_pass_26 rfl (lv_at hl 3 rfl) ?_
        refine lv_icmp_ge (tgt := 133) hx hb dX8_pass_27 (by decide) (fun h => absurd h (fun h9 => absurd ((br_le (show (nI xi) = nI xi from rfl) (show (nI k) = nI k from rfl) (by omega) (by omega)).mp h9) (by omega))) (fun _ => ?_)
        refine lv_aload_n hx hb dX8_pass_30 rfl (lv_at hl 2 rfl) ?_
        refine x_get (ref := RX8) (C := RX8) (T := TX8) (N := 8) (ci := 8) (v := .ref (q + 1)) hx hb hts iX8 hown hK.1 hP (by omega) (by omega) hM.self rfl 1 (by decide) (hts (.fieldLink RX8 10 "PoreFieldModel" "field" "LPoreFieldModel$Field;") (by decide +kernel)) (fun _ h9 => h9) rfl dX8_pass_31 ?_
        refine x_callx (va_runV (As := []) (rest := []) ⟨hx, hb, hml, hown, hts⟩ (c_X7_month l D cy lo n vL1 (q + 1) (by omega) (by omega) nw9 300 hF) (cwV 0 hts gX8_pass_X7_month rfl rfl rfl (by decide +kernel) ⟨Nat.le_of_ble_eq_true rfl, Nat.le_of_ble_eq_true rfl⟩) (preV hP hK (x_recv (ci := 7) (q := (RX7, TX7, 14)) hK.1 hP (by omega) (by omega) rfl hF.self)) rfl rfl hl.1 rfl (lv_room (Nat.le_of_ble_eq_true rfl)) dX8_pass_34 ⟨Nat.le_of_ble_eq_true rfl, Nat.le_of_ble_eq_true rfl⟩) hS (fun r9 u2 H locs hX hP hS => ?_)
        obtain ⟨rfl, hX⟩ := hX
        obtain ⟨hF9, hf9⟩ := hX
        have hF := hF9
        have hM := hM.ext (w' := u2) (fun a ha => hf9 a (by omega))
        have hB := hB.ext (w' := u2) (hf9 _ (by omega))
        have hfr := hfr.tr hf9 (by omega) (by omega)
        refine lv_istore (lv' := [(4, .int (0 : Int32)), (3, .int (nI k)), (2, .int (0 : Int32)), (0, .ref q), (1, .int (nI xi))]) hx hb dX8_pass_37 hl (by decide) rfl (fun ls hl => ?_)
        refine lv_iload hx hb dX8_pass_39 (lv_at hl 0 rfl) ?_
        refine lv_istore (lv' := [(5, .int (0 : Int32)), (4, .int (0 : Int32)), (3, .int (nI k)), (2, .int (0 : Int32)), (0, .ref q), (1, .int (nI xi))]) hx hb dX8_pass_41 hl (by decide) rfl (fun ls hl => ?_)
        refine lv_aload_n hx hb dX8_pass_43 rfl (lv_at hl 4 rfl) ?_
        refine x_get (ref := RX8) (C := RX8) (T := TX8) (N := 8) (ci := 8) (v := .ref (q + 17)) hx hb hts iX8 hown hK.1 hP (by omega) (by omega) hM.self rfl 2 (by decide) (hts (.fieldLink RX8 18 "PoreFieldModel" "partners" "[[I") (by decide +kernel)) (fun _ h9 => h9) rfl dX8_pass_44 ?_
        refine lv_astore (lv' := [(6, .ref (q + 17)), (5, .int (0 : Int32)), (4, .int (0 : Int32)), (3, .int (nI k)), (2, .int (0 : Int32)), (0, .ref q), (1, .int (nI xi))]) hx hb dX8_pass_47 hl (by decide) rfl (fun ls hl => ?_)
        refine lv_aload hx hb dX8_pass_49 (lv_at hl 0 rfl) ?_
        obtain ⟨y1, g1, o1⟩ := hM.outer
        refine x_alenA hx hb hK.1 hP (by omega) (by omega) 6 g1 rfl dX8_pass_51 ?_
        refine lv_istore (lv' := [(7, .int (nI 3)), (6, .ref (q + 17)), (5, .int (0 : Int32)), (4, .int (0 : Int32)), (3, .int (nI k)), (2, .int (0 : Int32)), (0, .ref q), (1, .int (nI xi))]) hx hb dX8_pass_52 hl (by decide) rfl (fun ls hl => ?_)
        refine lv_iconst (v := 0) hx hb dX8_pass_54 (by decide) ?_
        refine lv_istore (lv' := [(8, .int (0 : Int32)), (7, .int (nI 3)), (6, .ref (q + 17)), (5, .int (0 : Int32)), (4, .int (0 : Int32)), (3, .int (nI k)), (2, .int (0 : Int32)), (0, .ref q), (1, .int (nI xi))]) hx hb dX8_pass_55 hl (by decide) rfl (fun ls hl => ?_)
        refine lv_iload hx hb dX8_pass_57 (lv_at hl 0 rfl) ?_
        refine lv_iload hx hb dX8_pass_59 (lv_at hl 1 rfl) ?_
        refine lv_icmp_ge (tgt := 109) hx hb dX8_pass_61 (by decide) (fun h => absurd h (by decide)) (fun _ => ?_)
        refine lv_aload hx hb dX8_pass_64 (lv_at hl 2 rfl) ?_
        refine lv_iload hx hb dX8_pass_66 (lv_at hl 0 rfl) ?_
        obtain ⟨y2, g2, o2⟩ := hM.outer
        refine x_aaldA (b := (q + 18 + 0)) hx hb hK.1 hP (by omega) (by omega) 6 g2 rfl (cl_of_nI (i := 0) rfl (by omega)) (o2 0 (by omega)) (vp_in_of_nI (i := 0) rfl (by omega) (by omega)) dX8_pass_68 ?_
        refine lv_astore (lv' := [(9, .ref (q + 18 + 0)), (8, .int (0 : Int32)), (7, .int (nI 3)), (6, .ref (q + 17)), (5, .int (0 : Int32)), (4, .int (0 : Int32)), (3, .int (nI k)), (2, .int (0 : Int32)), (0, .ref q), (1, .int (nI xi))]) hx hb dX8_pass_69 hl (by decide) rfl (fun ls hl => ?_)
        refine lv_aload hx hb dX8_pass_71 (lv_at hl 0 rfl) ?_
        refine lv_iconst (v := 1) hx hb dX8_pass_73 (by decide) ?_
        refine lv_dup2_11 hx hb dX8_pass_74 rfl rfl ?_
        obtain ⟨d3, g3, j3, z3⟩ := hM.row 0 (by omega)
        refine x_iald hx hb hK.1 hP (by omega) (by omega) 0 g3 rfl (cl_of_nI (i := 1) rfl (by omega)) (vp_in_of_nI (i := 1) rfl (by omega) (by omega)) dX8_pass_75 ?_
        refine x_top (v' := (0 : Int32)) (z3 1 (by omega) (by omega)) ?_
        refine lv_iload hx hb dX8_pass_76 (lv_at hl 5 rfl) ?_
        refine lv_aload hx hb dX8_pass_78 (lv_at hl 0 rfl) ?_
        refine lv_iconst (v := 0) hx hb dX8_pass_80 (by decide) ?_
        obtain ⟨d4, g4, j4, z4⟩ := hM.row 0 (by omega)
        refine x_iald hx hb hK.1 hP (by omega) (by omega) 0 g4 rfl (cl_of_nI (i := 0) rfl (by omega)) (vp_in_of_nI (i := 0) rfl (by omega) (by omega)) dX8_pass_81 ?_
        refine x_top (v' := (100 : Int32)) j4 ?_
        refine lv_imul hx hb dX8_pass_82 ?_
        refine x_top (v' := 0) (by decide) ?_
        refine lv_bipush (v := 100) hx hb dX8_pass_83 (by decide) ?_
        refine lv_idiv hx hb dX8_pass_85 (by decide) ?_
        refine x_top (v' := 0) (by decide) ?_
        refine lv_iadd hx hb dX8_pass_86 ?_
        refine x_top (v' := 0) (by decide) ?_
        obtain ⟨d5, g5, j5, z5⟩ := hM.row 0 (by omega)
        refine x_iast hx hb hK.1 hP hS (by omega) (by omega) 0 g5 rfl (cl_of_nI (i := 1) rfl (by omega)) (vp_in_of_nI (i := 1) rfl (by omega) (by omega)) dX8_pass_87 (fun H locs hP hS => ?_)
        refine x_gen hP (fun v3 e3 hP => ?_)
        have hF : FM cy v3 (q + 1) (nw9 + 1) 300 := by rw [e3]; exact hF.o (by omega)
        have hM : MM cy v3 q 0 5 0 0 0 := by rw [e3]; exact hM.up_row (by omega) (upd_k0 (by omega) j5) (upd_kz rfl z5)
        have hB : LB cy v3 q := by rw [e3]; exact hB.o (by omega)
        have hfr : fr q 22 w v3 := by rw [e3]; exact hfr.up (by omega) (by omega)
        refine lv_iload hx hb dX8_pass_88 (lv_at hl 4 rfl) ?_
        refine lv_iload hx hb dX8_pass_90 (lv_at hl 5 rfl) ?_
        refine lv_aload hx hb dX8_pass_92 (lv_at hl 0 rfl) ?_
        refine lv_iconst (v := 0) hx hb dX8_pass_94 (by decide) ?_
        obtain ⟨d6, g6, j6, z6⟩ := hM.row 0 (by omega)
        refine x_iald hx hb hK.1 hP (by omega) (by omega) 0 g6 rfl (cl_of_nI (i := 0) rfl (by omega)) (vp_in_of_nI (i := 0) rfl (by omega) (by omega)) dX8_pass_95 ?_
        refine x_top (v' := (100 : Int32)) j6 ?_
        refine lv_imul hx hb dX8_pass_96 ?_
        refine x_top (v' := 0) (by decide) ?_
        refine lv_bipush (v := 100) hx hb dX8_pass_97 (by decide) ?_
        refine lv_idiv hx hb dX8_pass_99 (by decide) ?_
        refine x_top (v' := 0) (by decide) ?_
        refine lv_isub hx hb dX8_pass_100 ?_
        refine x_top (v' := 0) (by decide) ?_
        refine lv_istore (lv' := [(5, .int (0 : Int32)), (9, .ref (q + 18 + 0)), (8, .int (0 : Int32)), (7, .int (nI 3)), (6, .ref (q + 17)), (4, .int (0 : Int32)), (3, .int (nI k)), (2, .int (0 : Int32)), (0, .ref q), (1, .int (nI xi))]) hx hb dX8_pass_101 hl (by decide) rfl (fun ls hl => ?_)
        refine lv_iinc (v := (1 : Int32)) (lv' := [(8, .int (1 : Int32)), (5, .int (0 : Int32)), (9, .ref (q + 18 + 0)), (7, .int (nI 3)), (6, .ref (q + 17)), (4, .int (0 : Int32)), (3, .int (nI k)), (2, .int (0 : Int32)), (0, .ref q), (1, .int (nI xi))]) hx hb dX8_pass_103 hl (k := 2) rfl (by decide) (by decide) rfl (fun ls hl => ?_)
        refine lv_goto (tgt := 57) hx hb dX8_pass_106 (by decide) ?_
        refine lv_iload hx hb dX8_pass_57 (lv_at hl 0 rfl) ?_
        refine lv_iload hx hb dX8_pass_59 (lv_at hl 3 rfl) ?_
        refine lv_icmp_ge (tgt := 109) hx hb dX8_pass_61 (by decide) (fun h => absurd h (by decide)) (fun _ => ?_)
        refine lv_aload hx hb dX8_pass_64 (lv_at hl 4 rfl) ?_
        refine lv_iload hx hb dX8_pass_66 (lv_at hl 0 rfl) ?_
        obtain ⟨y7, g7, o7⟩ := hM.outer
        refine x_aaldA (b := (q + 18 + 1)) hx hb hK.1 hP (by omega) (by omega) 6 g7 rfl (cl_of_nI (i := 1) rfl (by omega)) (o7 1 (by omega)) (vp_in_of_nI (i := 1) rfl (by omega) (by omega)) dX8_pass_68 ?_
        refine lv_astore (lv' := [(9, .ref (q + 18 + 1)), (8, .int (1 : Int32)), (5, .int (0 : Int32)), (7, .int (nI 3)), (6, .ref (q + 17)), (4, .int (0 : Int32)), (3, .int (nI k)), (2, .int (0 : Int32)), (0, .ref q), (1, .int (nI xi))]) hx hb dX8_pass_69 hl (by decide) rfl (fun ls hl => ?_)
        refine lv_aload hx hb dX8_pass_71 (lv_at hl 0 rfl) ?_
        refine lv_iconst (v := 1) hx hb dX8_pass_73 (by decide) ?_
        refine lv_dup2_11 hx hb dX8_pass_74 rfl rfl ?_
        obtain ⟨d8, g8, j8, z8⟩ := hM.row 1 (by omega)
        refine x_iald hx hb hK.1 hP (by omega) (by omega) 0 g8 rfl (cl_of_nI (i := 1) rfl (by omega)) (vp_in_of_nI (i := 1) rfl (by omega) (by omega)) dX8_pass_75 ?_
        refine x_top (v' := (0 : Int32)) (z8 1 (by omega) (by omega)) ?_
        refine lv_iload hx hb dX8_pass_76 (lv_at hl 5 rfl) ?_
        refine lv_aload hx hb dX8_pass_78 (lv_at hl 0 rfl) ?_
        refine lv_iconst (v := 0) hx hb dX8_pass_80 (by decide) ?_
        obtain ⟨d9, g9, j9, z9⟩ := hM.row 1 (by omega)
        refine x_iald hx hb hK.1 hP (by omega) (by omega) 0 g9 rfl (cl_of_nI (i := 0) rfl (by omega)) (vp_in_of_nI (i := 0) rfl (by omega) (by omega)) dX8_pass_81 ?_
        refine x_top (v' := (0 : Int32)) j9 ?_
        refine lv_imul hx hb dX8_pass_82 ?_
        refine x_top (v' := 0) (by decide) ?_
        refine lv_bipush (v := 100) hx hb dX8_pass_83 (by decide) ?_
        refine lv_idiv hx hb dX8_pass_85 (by decide) ?_
        refine x_top (v' := 0) (by decide) ?_
        refine lv_iadd hx hb dX8_pass_86 ?_
        refine x_top (v' := 0) (by decide) ?_
        obtain ⟨d10, g10, j10, z10⟩ := hM.row 1 (by omega)
        refine x_iast hx hb hK.1 hP hS (by omega) (by omega) 0 g10 rfl (cl_of_nI (i := 1) rfl (by omega)) (vp_in_of_nI (i := 1) rfl (by omega) (by omega)) dX8_pass_87 (fun H locs hP hS => ?_)
        refine x_gen hP (fun v4 e4 hP => ?_)
        have hF : FM cy v4 (q + 1) (nw9 + 1) 300 := by rw [e4]; exact hF.o (by omega)
        have hM : MM cy v4 q 0 5 0 0 0 := by rw [e4]; exact hM.up_row (by omega) (upd_k0 (by omega) j10) (upd_kz rfl z10)
        have hB : LB cy v4 q := by rw [e4]; exact hB.o (by omega)
        have hfr : fr q 22 w v4 := by rw [e4]; exact hfr.up (by omega) (by omega)
        refine lv_iload hx hb dX8_pass_88 (lv_at hl 2 rfl) ?_
        refine lv_iload hx hb dX8_pass_90 (lv_at hl 5 rfl) ?_
        refine lv_aload hx hb dX8_pass_92 (lv_at hl 0 rfl) ?_
        refine lv_iconst (v := 0) hx hb dX8_pass_94 (by decide) ?_
        obtain ⟨d11, g11, j11, z11⟩ := hM.row 1 (by omega)
        refine x_iald hx hb hK.1 hP (by omega) (by omega) 0 g11 rfl (cl_of_nI (i := 0) rfl (by omega)) (vp_in_of_nI (i := 0) rfl (by omega) (by omega)) dX8_pass_95 ?_
        refine x_top (v' := (0 : Int32)) j11 ?_
        refine lv_imul hx hb dX8_pass_96 ?_
        refine x_top (v' := 0) (by decide) ?_
        refine lv_bipush (v := 100) hx hb dX8_pass_97 (by decide) ?_
        refine lv_idiv hx hb dX8_pass_99 (by decide) ?_
        refine x_top (v' := 0) (by decide) ?_
        refine lv_isub hx hb dX8_pass_100 ?_
        refine x_top (v' := 0) (by decide) ?_
        refine lv_istore (lv' := [(5, .int (0 : Int32)), (9, .ref (q + 18 + 1)), (8, .int (1 : Int32)), (7, .int (nI 3)), (6, .ref (q + 17)), (4, .int (0 : Int32)), (3, .int (nI k)), (2, .int (0 : Int32)), (0, .ref q), (1, .int (nI xi))]) hx hb dX8_pass_101 hl (by decide) rfl (fun ls hl => ?_)
        refine lv_iinc (v := (2 : Int32)) (lv' := [(8, .int (2 : Int32)), (5, .int (0 : Int32)), (9, .ref (q + 18 + 1)), (7, .int (nI 3)), (6, .ref (q + 17)), (4, .int (0 : Int32)), (3, .int (nI k)), (2, .int (0 : Int32)), (0, .ref q), (1, .int (nI xi))]) hx hb dX8_pass_103 hl (k := 2) rfl (by decide) (by decide) rfl (fun ls hl => ?_)
        refine lv_goto (tgt := 57) hx hb dX8_pass_106 (by decide) ?_
        refine lv_iload hx hb dX8_pass_57 (lv_at hl 0 rfl) ?_
        refine lv_iload hx hb dX8_pass_59 (lv_at hl 3 rfl) ?_
        refine lv_icmp_ge (tgt := 109) hx hb dX8_pass_61 (by decide) (fun h => absurd h (by decide)) (fun _ => ?_)
        refine lv_aload hx hb dX8_pass_64 (lv_at hl 4 rfl) ?_
        refine lv_iload hx hb dX8_pass_66 (lv_at hl 0 rfl) ?_
        obtain ⟨y12, g12, o12⟩ := hM.outer
        refine x_aaldA (b := (q + 18 + 2)) hx hb hK.1 hP (by omega) (by omega) 6 g12 rfl (cl_of_nI (i := 2) rfl (by omega)) (o12 2 (by omega)) (vp_in_of_nI (i := 2) rfl (by omega) (by omega)) dX8_pass_68 ?_
        refine lv_astore (lv' := [(9, .ref (q + 18 + 2)), (8, .int (2 : Int32)), (5, .int (0 : Int32)), (7, .int (nI 3)), (6, .ref (q + 17)), (4, .int (0 : Int32)), (3, .int (nI k)), (2, .int (0 : Int32)), (0, .ref q), (1, .int (nI xi))]) hx hb dX8_pass_69 hl (by decide) rfl (fun ls hl => ?_)
        refine lv_aload hx hb dX8_pass_71 (lv_at hl 0 rfl) ?_
        refine lv_iconst (v := 1) hx hb dX8_pass_73 (by decide) ?_
        refine lv_dup2_11 hx hb dX8_pass_74 rfl rfl ?_
        obtain ⟨d13, g13, j13, z13⟩ := hM.row 2 (by omega)
        refine x_iald hx hb hK.1 hP (by omega) (by omega) 0 g13 rfl (cl_of_nI (i := 1) rfl (by omega)) (vp_in_of_nI (i := 1) rfl (by omega) (by omega)) dX8_pass_75 ?_
        refine x_top (v' := (0 : Int32)) (z13 1 (by omega) (by omega)) ?_
        refine lv_iload hx hb dX8_pass_76 (lv_at hl 5 rfl) ?_
        refine lv_aload hx hb dX8_pass_78 (lv_at hl 0 rfl) ?_
        refine lv_iconst (v := 0) hx hb dX8_pass_80 (by decide) ?_
        obtain ⟨d14, g14, j14, z14⟩ := hM.row 2 (by omega)
        refine x_iald hx hb hK.1 hP (by omega) (by omega) 0 g14 rfl (cl_of_nI (i := 0) rfl (by omega)) (vp_in_of_nI (i := 0) rfl (by omega) (by omega)) dX8_pass_81 ?_
        refine x_top (v' := (0 : Int32)) j14 ?_
        refine lv_imul hx hb dX8_pass_82 ?_
        refine x_top (v' := 0) (by decide) ?_
        refine lv_bipush (v := 100) hx hb dX8_pass_83 (by decide) ?_
        refine lv_idiv hx hb dX8_pass_85 (by decide) ?_
        refine x_top (v' := 0) (by decide) ?_
        refine lv_iadd hx hb dX8_pass_86 ?_
        refine x_top (v' := 0) (by decide) ?_
        obtain ⟨d15, g15, j15, z15⟩ := hM.row 2 (by omega)
        refine x_iast hx hb hK.1 hP hS (by omega) (by omega) 0 g15 rfl (cl_of_nI (i := 1) rfl (by omega)) (vp_in_of_nI (i := 1) rfl (by omega) (by omega)) dX8_pass_87 (fun H locs hP hS => ?_)
        refine x_gen hP (fun v5 e5 hP => ?_)
        have hF : FM cy v5 (q + 1) (nw9 + 1) 300 := by rw [e5]; exact hF.o (by omega)
        have hM : MM cy v5 q 0 5 0 0 0 := by rw [e5]; exact hM.up_row (by omega) (upd_k0 (by omega) j15) (upd_kz rfl z15)
        have hB : LB cy v5 q := by rw [e5]; exact hB.o (by omega)
        have hfr : fr q 22 w v5 := by rw [e5]; exact hfr.up (by omega) (by omega)
        refine lv_iload hx hb dX8_pass_88 (lv_at hl 2 rfl) ?_
        refine lv_iload hx hb dX8_pass_90 (lv_at hl 5 rfl) ?_
        refine lv_aload hx hb dX8_pass_92 (lv_at hl 0 rfl) ?_
        refine lv_iconst (v := 0) hx hb dX8_pass_94 (by decide) ?_
        obtain ⟨d16, g16, j16, z16⟩ := hM.row 2 (by omega)
        refine x_iald hx hb hK.1 hP (by omega) (by omega) 0 g16 rfl (cl_of_nI (i := 0) rfl (by omega)) (vp_in_of_nI (i := 0) rfl (by omega) (by omega)) dX8_pass_95 ?_
        refine x_top (v' := (0 : Int32)) j16 ?_
        refine lv_imul hx hb dX8_pass_96 ?_
        refine x_top (v' := 0) (by decide) ?_
        refine lv_bipush (v := 100) hx hb dX8_pass_97 (by decide) ?_
        refine lv_idiv hx hb dX8_pass_99 (by decide) ?_
        refine x_top (v' := 0) (by decide) ?_
        refine lv_isub hx hb dX8_pass_100 ?_
        refine x_top (v' := 0) (by decide) ?_
        refine lv_istore (lv' := [(5, .int (0 : Int32)), (9, .ref (q + 18 + 2)), (8, .int (2 : Int32)), (7, .int (nI 3)), (6, .ref (q + 17)), (4, .int (0 : Int32)), (3, .int (nI k)), (2, .int (0 : Int32)), (0, .ref q), (1, .int (nI xi))]) hx hb dX8_pass_101 hl (by decide) rfl (fun ls hl => ?_)
        refine lv_iinc (v := (3 : Int32)) (lv' := [(8, .int (3 : Int32)), (5, .int (0 : Int32)), (9, .ref (q + 18 + 2)), (7, .int (nI 3)), (6, .ref (q + 17)), (4, .int (0 : Int32)), (3, .int (nI k)), (2, .int (0 : Int32)), (0, .ref q), (1, .int (nI xi))]) hx hb dX8_pass_103 hl (k := 2) rfl (by decide) (by decide) rfl (fun ls hl => ?_)
        refine lv_goto (tgt := 57) hx hb dX8_pass_106 (by decide) ?_
        refine lv_iload hx hb dX8_pass_57 (lv_at hl 0 rfl) ?_
        refine lv_iload hx hb dX8_pass_59 (lv_at hl 3 rfl) ?_
        refine lv_icmp_ge (tgt := 109) hx hb dX8_pass_61 (by decide) (fun _ => ?_) (fun h => absurd (by decide) h)
        refine lv_aload_n hx hb dX8_pass_109 rfl (lv_at hl 8 rfl) ?_
        refine x_get (ref := RX8) (C := RX8) (T := TX8) (N := 8) (ci := 8) (v := .ref (q + 17)) hx hb hts iX8 hown hK.1 hP (by omega) (by omega) hM.self rfl 2 (by decide) (hts (.fieldLink RX8 18 "PoreFieldModel" "partners" "[[I") (by decide +kernel)) (fun _ h9 => h9) rfl dX8_pass_110 ?_
        refine lv_iconst (v := 0) hx hb dX8_pass_113 (by decide) ?_
        obtain ⟨y17, g17, o17⟩ := hM.outer
        refine x_aaldA (b := (q + 18 + 0)) hx hb hK.1 hP (by omega) (by omega) 6 g17 rfl (cl_of_nI (i := 0) rfl (by omega)) (o17 0 (by omega)) (vp_in_of_nI (i := 0) rfl (by omega) (by omega)) dX8_pass_114 ?_
        refine lv_iconst (v := 1) hx hb dX8_pass_115 (by decide) ?_
        refine lv_dup2_11 hx hb dX8_pass_116 rfl rfl ?_
        obtain ⟨d18, g18, j18, z18⟩ := hM.row 0 (by omega)
        refine x_iald hx hb hK.1 hP (by omega) (by omega) 0 g18 rfl (cl_of_nI (i := 1) rfl (by omega)) (vp_in_of_nI (i := 1) rfl (by omega) (by omega)) dX8_pass_117 ?_
        refine x_top (v' := (0 : Int32)) (z18 1 (by omega) (by omega)) ?_
        refine lv_iload hx hb dX8_pass_118 (lv_at hl 1 rfl) ?_
        refine lv_iadd hx hb dX8_pass_120 ?_
        refine x_top (v' := 0) (by decide) ?_
        obtain ⟨d19, g19, j19, z19⟩ := hM.row 0 (by omega)
        refine x_iast hx hb hK.1 hP hS (by omega) (by omega) 0 g19 rfl (cl_of_nI (i := 1) rfl (by omega)) (vp_in_of_nI (i := 1) rfl (by omega) (by omega)) dX8_pass_121 (fun H locs hP hS => ?_)
        refine x_gen hP (fun v6 e6 hP => ?_)
        have hF : FM cy v6 (q + 1) (nw9 + 1) 300 := by rw [e6]; exact hF.o (by omega)
        have hM : MM cy v6 q 0 5 0 0 0 := by rw [e6]; exact hM.up_row (by omega) (upd_k0 (by omega) j19) (upd_kz rfl z19)
        have hB : LB cy v6 q := by rw [e6]; exact hB.o (by omega)
        have hfr : fr q 22 w v6 := by rw [e6]; exact hfr.up (by omega) (by omega)
        refine lv_iload_n hx hb dX8_pass_122 rfl (lv_at hl 7 rfl) ?_
        refine lv_iload hx hb dX8_pass_123 (lv_at hl 5 rfl) ?_
        refine lv_iadd hx hb dX8_pass_125 ?_
        refine x_top (v' := 0) (by decide) ?_
        refine lv_istore_n (lv' := [(2, .int (0 : Int32)), (8, .int (3 : Int32)), (5, .int (0 : Int32)), (9, .ref (q + 18 + 2)), (7, .int (nI 3)), (6, .ref (q + 17)), (4, .int (0 : Int32)), (3, .int (nI k)), (0, .ref q), (1, .int (nI xi))]) hx hb dX8_pass_126 rfl hl (by decide) rfl (fun ls hl => ?_)
        refine lv_iinc (v := (nI (k + 1))) (lv' := [(3, .int (nI (k + 1))), (2, .int (0 : Int32)), (8, .int (3 : Int32)), (5, .int (0 : Int32)), (9, .ref (q + 18 + 2)), (7, .int (nI 3)), (6, .ref (q + 17)), (4, .int (0 : Int32)), (0, .ref q), (1, .int (nI xi))]) hx hb dX8_pass_127 hl (k := 7) rfl (nI_1 _) (by decide) rfl (fun ls hl => ?_)
        refine lv_goto (tgt := 25) hx hb dX8_pass_130 (by decide) ?_
        exact ih (k + 1) _ _ _ _ (by omega) (lv_sub hl [0, 1, 8, 9] rfl) hM hB ⟨_, hF⟩ hfr hP hS
    exact L1 xi 0 _ _ _ _ (by omega) (lv_sub hl [0, 1, 2, 3] rfl) hM hB ⟨_, hF⟩ hfr hP hS
  · refine x_top (v' := (0 : Int32)) (if_neg c_9) ?_
    refine lv_if_ne (tgt := 21) hx hb dX8_pass_12 (by decide) (fun h => absurd (by decide) h) (fun _ => ?_)
    refine lv_aload_n hx hb dX8_pass_15 rfl (lv_at hl 0 rfl) ?_
    refine lv_iconst (v := 1) hx hb dX8_pass_16 (by decide) ?_
    refine x_callx (va_runV (As := [.int (1 : Int32)]) (rest := []) ⟨hx, hb, hml, hown, hts⟩ (c_X8_no l D cy lo n v1 q (by omega) (by omega) 0 hM hB hF (1 : Int32)) (cwV 1 hts gX8_pass_X8_no rfl rfl rfl (by decide +kernel) ⟨Nat.le_of_ble_eq_true rfl, Nat.le_of_ble_eq_true rfl⟩) (preV hP hK (x_recv (ci := 8) (q := (RX8, TX8, 8)) hK.1 hP (by omega) (by omega) rfl hM.self)) rfl rfl hl.1 rfl (lv_room (Nat.le_of_ble_eq_true rfl)) dX8_pass_17 ⟨Nat.le_of_ble_eq_true rfl, Nat.le_of_ble_eq_true rfl⟩) hS (fun r9 u7 H locs hX hP hS => ?_)
    obtain ⟨rfl, hM, hB, hF, hf9⟩ := hX
    have hfr := hfr.tr hf9 (by omega) (by omega)
    have eS : r_pass x = (1, (0 : Int32)) := by unfold r_pass; rw [if_neg c_9] <;> first | rfl | decide
    exact W.iret (v := (0 : Int32)) hx hb hr (fun tE ht hW => ⟨⟨(0 : Int32), u7, rfl, by rw [eS]; exact ⟨⟨_, hM.self⟩, fun _ => rfl, hfr⟩, x_at ht hP⟩, hS.F ht⟩) hS.2.2 dX8_pass_20
