/-! the reckoner: made; book -/
def r_book : Int32 × Int32 := (0, 0)
set_option maxRecDepth 100000 in
set_option maxHeartbeats 1000000 in
/-- book -/
theorem c_X8_book (l : Launch) (D : va_G) (cy : Nat → ClassId) (lo n : Nat) (w : Nat → va_E) (q : Nat) (h1 : lo ≤ q) (h2 : q + 22 ≤ lo + n) (th : Int32) (hM : MM cy w q th 5 0 0 0) (hB : LB cy w q) (hF : FM cy w (q + 1) 0 300) : Met l yX8_book wsX8_book ({ frames := 6, cells := 33, slots := 435, locals := 151 }) (PcN D cy lo n w [.ref q]) (va_Qi (fun (r : Int32) (u : Nat → va_E) => (∃ fs, u q = .inr (8, .int r_book.1 :: fs)) ∧ (r_book.1 = 0 → r = r_book.2) ∧ ∀ a, a < lo + n → (a < q ∨ q + 22 ≤ a) → u a = w a) (fun u tE => va_P D vwCl (rl lo (n + 1 + 15 + 1 + 15 + 1) u) tE.heap ∧ tE.heap.size = lo + (n + 1 + 15 + 1 + 15 + 1)) (fun q : Nat => lo ≤ q)) 33 435 (fun q : Nat => lo ≤ q) := by
  refine Met.ofW (cc := cX8_book) (maxL := 5) (ret := (some .int)) (by decide) rfl ?_
  intro p e s m args below meth c s₁ B hml hv
  obtain ⟨rfl, hsz, hP, hK, hS⟩ := n_entry hv
  have hx := B.exec
  have hb := B.bytes
  have hr := B.returns
  have hts := atoms_spec (ws := wsX8_book) B.pre
  have hown : s.vm.findClass RX8 = some m.cls := findClass_of_methodNamed B.named
  have hlocks := B.notSynchronized
  have iX7 : ∀ w ∈ u_ws RX7 TX7 14, w ∈ wsX8_book := by decide +kernel
  have iX8 : ∀ w ∈ u_ws RX8 TX8 8, w ∈ wsX8_book := by decide +kernel
  have hl := lv_entry ([.ref q]) (n := 5) (Nat.le_of_ble_eq_true rfl)
  rw [lg_entry_eq]
  generalize (lg_sl ([.ref q]) ++ List.replicate (5 - (lg_sl ([.ref q])).length) Slot.unset).toArray = ls at hl ⊢
  have hl : lv_has ls 5 [(0, .ref q)] := hl
  have hof : ∀ a, a < lo + n → (a < q ∨ q + 22 ≤ a) → w a = w a := fun _ _ _ => rfl
  refine lv_aload_n hx hb dX8_book_0 rfl (lv_at hl 0 rfl) ?_
  refine lv_iconst (v := 0) hx hb dX8_book_1 (by decide) ?_
  refine x_put (ty := tyX8 0) (ref := RX8) (C := RX8) (T := TX8) (N := 8) (ci := 8) (v := .int (0 : Int32)) hx hb hts iX8 tyX8 tyX8_ok nmX8 hown hK.1.1 hP hS (by omega) (by omega) hM.self rfl 0 (by decide) (hts (.fieldLink RX8 29 "PoreFieldModel" "thrown" "I") (by decide +kernel)) (fun _ h9 => h9) rfl (by decide +kernel) rfl rfl (Nat.le_of_ble_eq_true rfl) dX8_book_2 (fun H locs hP hS => ?_)
  refine x_gen hP (fun v1 e1 hP => ?_)
  have hF : FM cy v1 (q + 1) 0 300 := by rw [e1]; exact hF.o (by omega)
  have hM : MM cy v1 q 0 5 0 0 0 := by rw [e1]; exact hM.up_self (th' := 0) (pr' := 5) (bk' := 0) (bo' := 0) (bw' := 0)
  have hB : LB cy v1 q := by rw [e1]; exact hB.o (by omega)
  have hof : ∀ a, a < lo + n → (a < q ∨ q + 22 ≤ a) → v1 a = w a := fun a h8 h9 => by rw [e1]; exact (xu_ne (by omega)).trans (hof a h8 h9)
  refine lv_aload_n hx hb dX8_book_5 rfl (lv_at hl 0 rfl) ?_
  refine lv_aload_n hx hb dX8_book_6 rfl (lv_at hl 0 rfl) ?_
  refine x_get (ref := RX8) (C := RX8) (T := TX8) (N := 8) (ci := 8) (v := .ref (q + 1)) hx hb hts iX8 hown hK.1.1 hP (by omega) (by omega) hM.self rfl 1 (by decide) (hts (.fieldLink RX8 10 "PoreFieldModel" "field" "LPoreFieldModel$Field;") (by decide +kernel)) (fun _ h9 => h9) rfl dX8_book_7 ?_
  refine x_get (ref := RX7) (C := RX7) (T := TX7) (N := 14) (ci := 7) (v := .int (0 : Int32)) hx hb hts iX7 hown hK.1.1 hP (by omega) (by omega) hF.self rfl 9 (by decide) (hts (.fieldLink RX8 40 "PoreFieldModel$Field" "wellCount" "I") (by decide +kernel)) (fun _ h9 => h9) rfl dX8_book_10 ?_
  refine x_szn (by omega) (by omega) hP (fun hzH => ?_)
  refine x_calliN (va_runV (As := [.int (0 : Int32)]) (rest := []) ⟨hx, hb, hml, hown, hts⟩ (c_X8_reserves l D cy lo n v1 q (by omega) (by omega) 0 hM hB hF (lo + n) rfl) (cwV 1 hts gX8_book_X8_reserves rfl rfl rfl (by decide +kernel) ⟨Nat.le_of_ble_eq_true rfl, Nat.le_of_ble_eq_true rfl⟩) (preVN hzH hP hK (x_recv (ci := 8) (q := (RX8, TX8, 8)) hK.1.1 hP (by omega) (by omega) rfl hM.self)) rfl rfl hl.1 rfl (lv_room (Nat.le_of_ble_eq_true rfl)) dX8_book_13 ⟨by show _ ≤ 33; omega, by show _ ≤ 435; omega⟩) hS (fun r9 u2 H locs hX hP hzH hS => ?_)
  obtain ⟨rfl, hlo9⟩ := hX
  have hF := hF.ext (w' := u2) (fun a g1 g2 => hlo9 a (by omega))
  have hM := hM.ext (w' := u2) (fun a ha => hlo9 a (by omega))
  have hB := hB.ext (w' := u2) (hlo9 _ (by omega))
  have hof : ∀ a, a < lo + n → (a < q ∨ q + 22 ≤ a) → u2 a = w a := fun a h8 h9 => (hlo9 a (by omega)).trans (hof a h8 h9)
  refine lv_istore_n (lv' := [(1, .int (0 : Int32)), (0, .ref q)]) hx hb dX8_book_16 rfl hl (by decide) rfl (fun ls hl => ?_)
  refine lv_aload_n hx hb dX8_book_17 rfl (lv_at hl 1 rfl) ?_
  refine x_get (ref := RX8) (C := RX8) (T := TX8) (N := 8) (ci := 8) (v := .int (0 : Int32)) hx hb hts iX8 hown hK.1.1 hP (by omega) (by omega) hM.self rfl 5 (by decide) (hts (.fieldLink RX8 112 "PoreFieldModel" "books" "I") (by decide +kernel)) (fun _ h9 => h9) rfl dX8_book_18 ?_
  refine lv_if_ne (tgt := 28) hx hb dX8_book_21 (by decide) (fun h => absurd (by decide) h) (fun _ => ?_)
  refine lv_iconst (v := 0) hx hb dX8_book_24 (by decide) ?_
  refine lv_goto (tgt := 42) hx hb dX8_book_25 (by decide) ?_
  refine lv_istore_n (lv' := [(2, .int (0 : Int32)), (1, .int (0 : Int32)), (0, .ref q)]) hx hb dX8_book_42 rfl hl (by decide) rfl (fun ls hl => ?_)
  refine lv_iload_n hx hb dX8_book_43 rfl (lv_at hl 1 rfl) ?_
  refine lv_aload_n hx hb dX8_book_44 rfl (lv_at hl 2 rfl) ?_
  refine lv_aload_n hx hb dX8_book_45 rfl (lv_at hl 2 rfl) ?_
  refine x_get (ref := RX8) (C := RX8) (T := TX8) (N := 8) (ci := 8) (v := .int (0 : Int32)) hx hb hts iX8 hown hK.1.1 hP (by omega) (by omega) hM.self rfl 7 (by decide) (hts (.fieldLink RX8 121 "PoreFieldModel" "bookedWells" "I") (by decide +kernel)) (fun _ h9 => h9) rfl dX8_book_46 ?_
  refine x_szn (by omega) (by omega) hP (fun hzH => ?_)
  refine x_calliN (va_runV (As := [.int (0 : Int32)]) (rest := [.int (0 : Int32)]) ⟨hx, hb, hml, hown, hts⟩ (c_X8_reserves l D cy lo (n + 1 + 15) u2 q (by omega) (by omega) 0 hM hB hF (lo + (n + 1 + 15)) rfl) (cwV 1 hts gX8_book_X8_reserves rfl rfl rfl (by decide +kernel) ⟨Nat.le_of_ble_eq_true rfl, Nat.le_of_ble_eq_true rfl⟩) (preVN hzH hP hK (x_recv (ci := 8) (q := (RX8, TX8, 8)) hK.1.1 hP (by omega) (by omega) rfl hM.self)) rfl rfl hl.1 rfl (lv_room (Nat.le_of_ble_eq_true rfl)) dX8_book_49 ⟨by show _ ≤ 33; omega, by show _ ≤ 435; omega⟩) hS (fun r9 u3 H locs hX hP hzH hS => ?_)
  obtain ⟨rfl, hlo9⟩ := hX
  have hF := hF.ext (w' := u3) (fun a g1 g2 => hlo9 a (by omega))
  have hM := hM.ext (w' := u3) (fun a ha => hlo9 a (by omega))
  have hB := hB.ext (w' := u3) (hlo9 _ (by omega))
  have hof : ∀ a, a < lo + n → (a < q ∨ q + 22 ≤ a) → u3 a = w a := fun a h8 h9 => (hlo9 a (by omega)).trans (hof a h8 h9)
  refine lv_isub hx hb dX8_book_52 ?_
  refine x_top (v' := 0) (by decide) ?_
  refine lv_istore_n (lv' := [(3, .int (0 : Int32)), (2, .int (0 : Int32)), (1, .int (0 : Int32)), (0, .ref q)]) hx hb dX8_book_53 rfl hl (by decide) rfl (fun ls hl => ?_)
  refine lv_iconst (v := 5) hx hb dX8_book_54 (by decide) ?_
  refine n_newi (q0 := lo + ((n + 1 + 15) + 1 + 15)) (N := 5) hx hb (hts (.arrayClass .int) (by decide +kernel)) hK.1.1 hP hS (by omega) (by omega) rfl 0 rfl (by decide) (by decide) (by omega) (by show _ ≤ 33; omega) (by show _ ≤ 435; omega) dX8_book_55 (fun H hP hS => ?_)
  refine x_gen hP (fun v4 e4 hP => ?_)
  have hF : FM cy v4 (q + 1) 0 300 := by rw [e4]; exact hF.o (by omega)
  have hM : MM cy v4 q 0 5 0 0 0 := by rw [e4]; exact hM.o (by omega) (by omega) (by omega)
  have hB : LB cy v4 q := by rw [e4]; exact hB.o (by omega)
  have hof : ∀ a, a < lo + n → (a < q ∨ q + 22 ≤ a) → v4 a = w a := fun a h8 h9 => by rw [e4]; exact (xu_ne (by omega)).trans (hof a h8 h9)
  have hnw : v4 (lo + ((n + 1 + 15) + 1 + 15)) = .inl (cy 0, 5, .inl (fun _ => 0)) := by rw [e4]; exact xu_same _ _ _
  refine lv_dup hx hb dX8_book_57 rfl ?_
  refine lv_iconst (v := 0) hx hb dX8_book_58 (by decide) ?_
  refine lv_iload_n hx hb dX8_book_59 rfl (lv_at hl 2 rfl) ?_
  refine x_iast hx hb hK.1.1 hP hS (by omega) (by omega) 0 hnw rfl (cl_of_nI (i := 0) rfl (by omega)) (vp_in_of_nI (i := 0) rfl (by omega) (by omega)) dX8_book_60 (fun H locs hP hS => ?_)
  refine x_gen hP (fun v5 e5 hP => ?_)
  have hF : FM cy v5 (q + 1) 0 300 := by rw [e5]; exact hF.o (by omega)
  have hM : MM cy v5 q 0 5 0 0 0 := by rw [e5]; exact hM.o (by omega) (by omega) (by omega)
  have hB : LB cy v5 q := by rw [e5]; exact hB.o (by omega)
  have hnw : v5 (lo + ((n + 1 + 15) + 1 + 15)) = .inl (cy 0, 5, .inl (upd (fun _ => 0) 0 (0 : Int32))) := by rw [e5]; exact xu_same _ _ _
  have hof : ∀ a, a < lo + n → (a < q ∨ q + 22 ≤ a) → v5 a = w a := fun a h8 h9 => by rw [e5]; exact (xu_ne (by omega)).trans (hof a h8 h9)
  refine lv_dup hx hb dX8_book_61 rfl ?_
  refine lv_iconst (v := 1) hx hb dX8_book_62 (by decide) ?_
  refine lv_iload_n hx hb dX8_book_63 rfl (lv_at hl 1 rfl) ?_
  refine x_iast hx hb hK.1.1 hP hS (by omega) (by omega) 0 hnw rfl (cl_of_nI (i := 1) rfl (by omega)) (vp_in_of_nI (i := 1) rfl (by omega) (by omega)) dX8_book_64 (fun H locs hP hS => ?_)
  refine x_gen hP (fun v6 e6 hP => ?_)
  have hF : FM cy v6 (q + 1) 0 300 := by rw [e6]; exact hF.o (by omega)
  have hM : MM cy v6 q 0 5 0 0 0 := by rw [e6]; exact hM.o (by omega) (by omega) (by omega)
  have hB : LB cy v6 q := by rw [e6]; exact hB.o (by omega)
  have hnw : v6 (lo + ((n + 1 + 15) + 1 + 15)) = .inl (cy 0, 5, .inl (upd (upd (fun _ => 0) 0 (0 : Int32)) 1 (0 : Int32))) := by rw [e6]; exact xu_same _ _ _
  have hof : ∀ a, a < lo + n → (a < q ∨ q + 22 ≤ a) → v6 a = w a := fun a h8 h9 => by rw [e6]; exact (xu_ne (by omega)).trans (hof a h8 h9)
  refine lv_dup hx hb dX8_book_65 rfl ?_
  refine lv_iconst (v := 2) hx hb dX8_book_66 (by decide) ?_
  refine lv_iload_n hx hb dX8_book_67 rfl (lv_at hl 0 rfl) ?_
  refine x_iast hx hb hK.1.1 hP hS (by omega) (by omega) 0 hnw rfl (cl_of_nI (i := 2) rfl (by omega)) (vp_in_of_nI (i := 2) rfl (by omega) (by omega)) dX8_book_68 (fun H locs hP hS => ?_)
  refine x_gen hP (fun v7 e7 hP => ?_)
  have hF : FM cy v7 (q + 1) 0 300 := by rw [e7]; exact hF.o (by omega)
  have hM : MM cy v7 q 0 5 0 0 0 := by rw [e7]; exact hM.o (by omega) (by omega) (by omega)
  have hB : LB cy v7 q := by rw [e7]; exact hB.o (by omega)
  have hnw : v7 (lo + ((n + 1 + 15) + 1 + 15)) = .inl (cy 0, 5, .inl (upd (upd (upd (fun _ => 0) 0 (0 : Int32)) 1 (0 : Int32)) 2 (0 : Int32))) := by rw [e7]; exact xu_same _ _ _
  have hof : ∀ a, a < lo + n → (a < q ∨ q + 22 ≤ a) → v7 a = w a := fun a h8 h9 => by rw [e7]; exact (xu_ne (by omega)).trans (hof a h8 h9)
  refine lv_dup hx hb dX8_book_69 rfl ?_
  refine lv_iconst (v := 3) hx hb dX8_book_70 (by decide) ?_
  refine lv_iload_n hx hb dX8_book_71 rfl (lv_at hl 2 rfl) ?_
  refine lv_aload_n hx hb dX8_book_72 rfl (lv_at hl 3 rfl) ?_
  refine x_get (ref := RX8) (C := RX8) (T := TX8) (N := 8) (ci := 8) (v := .ref (q + 21)) hx hb hts iX8 hown hK.1.1 hP (by omega) (by omega) hM.self rfl 3 (by decide) (hts (.fieldLink RX8 22 "PoreFieldModel" "lastBook" "[I") (by decide +kernel)) (fun _ h9 => h9) rfl dX8_book_73 ?_
  refine lv_iconst (v := 0) hx hb dX8_book_76 (by decide) ?_
  obtain ⟨d1, g1, l1_0, l1_1, l1_2, l1_3, l1_4⟩ := id hB
  refine x_iald hx hb hK.1.1 hP (by omega) (by omega) 0 g1 rfl (cl_of_nI (i := 0) rfl (by omega)) (vp_in_of_nI (i := 0) rfl (by omega) (by omega)) dX8_book_77 ?_
  refine x_top (v' := (0 : Int32)) l1_0 ?_
  refine lv_isub hx hb dX8_book_78 ?_
  refine x_top (v' := 0) (by decide) ?_
  refine lv_iload_n hx hb dX8_book_79 rfl (lv_at hl 1 rfl) ?_
  refine lv_isub hx hb dX8_book_80 ?_
  refine x_top (v' := 0) (by decide) ?_
  refine lv_iload_n hx hb dX8_book_81 rfl (lv_at hl 0 rfl) ?_
  refine lv_isub hx hb dX8_book_82 ?_
  refine x_top (v' := 0) (by decide) ?_
  refine x_iast hx hb hK.1.1 hP hS (by omega) (by omega) 0 hnw rfl (cl_of_nI (i := 3) rfl (by omega)) (vp_in_of_nI (i := 3) rfl (by omega) (by omega)) dX8_book_83 (fun H locs hP hS => ?_)
  refine x_gen hP (fun v8 e8 hP => ?_)
  have hF : FM cy v8 (q + 1) 0 300 := by rw [e8]; exact hF.o (by omega)
  have hM : MM cy v8 q 0 5 0 0 0 := by rw [e8]; exact hM.o (by omega) (by omega) (by omega)
  have hB : LB cy v8 q := by rw [e8]; exact hB.o (by omega)
  have hnw : v8 (lo + ((n + 1 + 15) + 1 + 15)) = .inl (cy 0, 5, .inl (upd (upd (upd (upd (fun _ => 0) 0 (0 : Int32)) 1 (0 : Int32)) 2 (0 : Int32)) 3 (0 : Int32))) := by rw [e8]; exact xu_same _ _ _
  have hof : ∀ a, a < lo + n → (a < q ∨ q + 22 ≤ a) → v8 a = w a := fun a h8 h9 => by rw [e8]; exact (xu_ne (by omega)).trans (hof a h8 h9)
  refine lv_dup hx hb dX8_book_84 rfl ?_
  refine lv_iconst (v := 4) hx hb dX8_book_85 (by decide) ?_
  refine lv_aload_n hx hb dX8_book_86 rfl (lv_at hl 3 rfl) ?_
  refine x_get (ref := RX8) (C := RX8) (T := TX8) (N := 8) (ci := 8) (v := .ref (q + 1)) hx hb hts iX8 hown hK.1.1 hP (by omega) (by omega) hM.self rfl 1 (by decide) (hts (.fieldLink RX8 10 "PoreFieldModel" "field" "LPoreFieldModel$Field;") (by decide +kernel)) (fun _ h9 => h9) rfl dX8_book_87 ?_
  refine x_get (ref := RX7) (C := RX7) (T := TX7) (N := 14) (ci := 7) (v := .int (0 : Int32)) hx hb hts iX7 hown hK.1.1 hP (by omega) (by omega) hF.self rfl 10 (by decide) (hts (.fieldLink RX8 124 "PoreFieldModel$Field" "now" "I") (by decide +kernel)) (fun _ h9 => h9) rfl dX8_book_90 ?_
  refine x_iast hx hb hK.1.1 hP hS (by omega) (by omega) 0 hnw rfl (cl_of_nI (i := 4) rfl (by omega)) (vp_in_of_nI (i := 4) rfl (by omega) (by omega)) dX8_book_93 (fun H locs hP hS => ?_)
  refine x_gen hP (fun v9 e9 hP => ?_)
  have hF : FM cy v9 (q + 1) 0 300 := by rw [e9]; exact hF.o (by omega)
  have hM : MM cy v9 q 0 5 0 0 0 := by rw [e9]; exact hM.o (by omega) (by omega) (by omega)
  have hB : LB cy v9 q := by rw [e9]; exact hB.o (by omega)
  have hnw : v9 (lo + ((n + 1 + 15) + 1 + 15)) = .inl (cy 0, 5, .inl (upd (upd (upd (upd (upd (fun _ => 0) 0 (0 : Int32)) 1 (0 : Int32)) 2 (0 : Int32)) 3 (0 : Int32)) 4 (0 : Int32))) := by rw [e9]; exact xu_same _ _ _
  have hof : ∀ a, a < lo + n → (a < q ∨ q + 22 ≤ a) → v9 a = w a := fun a h8 h9 => by rw [e9]; exact (xu_ne (by omega)).trans (hof a h8 h9)
  refine lv_astore (lv' := [(4, .ref (lo + ((n + 1 + 15) + 1 + 15))), (3, .int (0 : Int32)), (2, .int (0 : Int32)), (1, .int (0 : Int32)), (0, .ref q)]) hx hb dX8_book_94 hl (by decide) rfl (fun ls hl => ?_)
  refine lv_aload hx hb dX8_book_96 (lv_at hl 0 rfl) ?_
  refine lv_iconst (v := 0) hx hb dX8_book_98 (by decide) ?_
  refine lv_aload_n hx hb dX8_book_99 rfl (lv_at hl 4 rfl) ?_
  refine x_get (ref := RX8) (C := RX8) (T := TX8) (N := 8) (ci := 8) (v := .ref (q + 21)) hx hb hts iX8 hown hK.1.1 hP (by omega) (by omega) hM.self rfl 3 (by decide) (hts (.fieldLink RX8 22 "PoreFieldModel" "lastBook" "[I") (by decide +kernel)) (fun _ h9 => h9) rfl dX8_book_100 ?_
  refine lv_iconst (v := 0) hx hb dX8_book_103 (by decide) ?_
  refine lv_iconst (v := 5) hx hb dX8_book_104 (by decide) ?_
  obtain ⟨d9, g9, _, _, _, _, _⟩ := id hB
  refine x_copyi (own := RX8) (k' := 5) hx hb (hml.trans hl.1.symm) hown (hts (.methodLink RX8 127 arraycopyName) (by decide +kernel)) (hts (.native arraycopyName) (by decide +kernel)) (hts (.static arraycopyName) (by decide +kernel)) (hts (.initialized "java/lang/System") (by decide +kernel)) hK.1.1 hP hS 0 (by omega) (by omega) (by omega) (by omega) hnw g9 rfl (by decide) (by decide) (by omega) (by omega) (Nat.le_of_ble_eq_true rfl) (Nat.le_of_ble_eq_true rfl) dX8_book_105 (fun H locs hP hS => ?_)
  refine x_gen hP (fun v10 e10 hP => ?_)
  have hF : FM cy v10 (q + 1) 0 300 := by rw [e10]; exact hF.o (by omega)
  have hM : MM cy v10 q 0 5 0 0 0 := by rw [e10]; exact hM.o (by omega) (by omega) (by omega)
  have hnw : v10 (lo + ((n + 1 + 15) + 1 + 15)) = .inl (cy 0, 5, .inl (upd (upd (upd (upd (upd (fun _ => 0) 0 (0 : Int32)) 1 (0 : Int32)) 2 (0 : Int32)) 3 (0 : Int32)) 4 (0 : Int32))) := by rw [e10]; exact (xu_ne (by omega)).trans hnw
  have hof : ∀ a, a < lo + n → (a < q ∨ q + 22 ≤ a) → v10 a = w a := fun a h8 h9 => by rw [e10]; exact (xu_ne (by omega)).trans (hof a h8 h9)
  refine lv_aload_n hx hb dX8_book_108 rfl (lv_at hl 4 rfl) ?_
  refine lv_dup hx hb dX8_book_109 rfl ?_
  refine x_get (ref := RX8) (C := RX8) (T := TX8) (N := 8) (ci := 8) (v := .int (0 : Int32)) hx hb hts iX8 hown hK.1.1 hP (by omega) (by omega) hM.self rfl 5 (by decide) (hts (.fieldLink RX8 112 "PoreFieldModel" "books" "I") (by decide +kernel)) (fun _ h9 => h9) rfl dX8_book_110 ?_
  refine lv_iconst (v := 1) hx hb dX8_book_113 (by decide) ?_
  refine lv_iadd hx hb dX8_book_114 ?_
  refine x_top (v' := 1) (by decide) ?_
  refine x_put (ty := tyX8 5) (ref := RX8) (C := RX8) (T := TX8) (N := 8) (ci := 8) (v := .int (1 : Int32)) hx hb hts iX8 tyX8 tyX8_ok nmX8 hown hK.1.1 hP hS (by omega) (by omega) hM.self rfl 5 (by decide) (hts (.fieldLink RX8 112 "PoreFieldModel" "books" "I") (by decide +kernel)) (fun _ h9 => h9) rfl (by decide +kernel) rfl rfl (Nat.le_of_ble_eq_true rfl) dX8_book_115 (fun H locs hP hS => ?_)
  refine x_gen hP (fun v11 e11 hP => ?_)
  have hF : FM cy v11 (q + 1) 0 300 := by rw [e11]; exact hF.o (by omega)
  have hM : MM cy v11 q 0 5 1 0 0 := by rw [e11]; exact hM.up_self (th' := 0) (pr' := 5) (bk' := 1) (bo' := 0) (bw' := 0)
  have hnw : v11 (lo + ((n + 1 + 15) + 1 + 15)) = .inl (cy 0, 5, .inl (upd (upd (upd (upd (upd (fun _ => 0) 0 (0 : Int32)) 1 (0 : Int32)) 2 (0 : Int32)) 3 (0 : Int32)) 4 (0 : Int32))) := by rw [e11]; exact (xu_ne (by omega)).trans hnw
  have hof : ∀ a, a < lo + n → (a < q ∨ q + 22 ≤ a) → v11 a = w a := fun a h8 h9 => by rw [e11]; exact (xu_ne (by omega)).trans (hof a h8 h9)
  refine lv_aload_n hx hb dX8_book_118 rfl (lv_at hl 4 rfl) ?_
  refine lv_aload_n hx hb dX8_book_119 rfl (lv_at hl 4 rfl) ?_
  refine x_get (ref := RX8) (C := RX8) (T := TX8) (N := 8) (ci := 8) (v := .ref (q + 1)) hx hb hts iX8 hown hK.1.1 hP (by omega) (by omega) hM.self rfl 1 (by decide) (hts (.fieldLink RX8 10 "PoreFieldModel" "field" "LPoreFieldModel$Field;") (by decide +kernel)) (fun _ h9 => h9) rfl dX8_book_120 ?_
  refine x_get (ref := RX7) (C := RX7) (T := TX7) (N := 14) (ci := 7) (v := .ref ((q + 1) + 13)) hx hb hts iX7 hown hK.1.1 hP (by omega) (by omega) hF.self rfl 6 (by decide) (hts (.fieldLink RX8 118 "PoreFieldModel$Field" "sums" "[I") (by decide +kernel)) (fun _ h9 => h9) rfl dX8_book_123 ?_
  refine lv_iconst (v := 0) hx hb dX8_book_126 (by decide) ?_
  obtain ⟨d2, g2, q2⟩ := hF.sums
  refine x_iald hx hb hK.1.1 hP (by omega) (by omega) 0 g2 rfl (cl_of_nI (i := 0) rfl (by omega)) (vp_in_of_nI (i := 0) rfl (by omega) (by omega)) dX8_book_127 ?_
  refine x_top (v' := (0 : Int32)) (q2 _ (by omega)) ?_
  refine x_put (ty := tyX8 6) (ref := RX8) (C := RX8) (T := TX8) (N := 8) (ci := 8) (v := .int (0 : Int32)) hx hb hts iX8 tyX8 tyX8_ok nmX8 hown hK.1.1 hP hS (by omega) (by omega) hM.self rfl 6 (by decide) (hts (.fieldLink RX8 115 "PoreFieldModel" "booked" "I") (by decide +kernel)) (fun _ h9 => h9) rfl (by decide +kernel) rfl rfl (Nat.le_of_ble_eq_true rfl) dX8_book_128 (fun H locs hP hS => ?_)
  refine x_gen hP (fun v12 e12 hP => ?_)
  have hF : FM cy v12 (q + 1) 0 300 := by rw [e12]; exact hF.o (by omega)
  have hM : MM cy v12 q 0 5 1 0 0 := by rw [e12]; exact hM.up_self (th' := 0) (pr' := 5) (bk' := 1) (bo' := 0) (bw' := 0)
  have hnw : v12 (lo + ((n + 1 + 15) + 1 + 15)) = .inl (cy 0, 5, .inl (upd (upd (upd (upd (upd (fun _ => 0) 0 (0 : Int32)) 1 (0 : Int32)) 2 (0 : Int32)) 3 (0 : Int32)) 4 (0 : Int32))) := by rw [e12]; exact (xu_ne (by omega)).trans hnw
  have hof : ∀ a, a < lo + n → (a < q ∨ q + 22 ≤ a) → v12 a = w a := fun a h8 h9 => by rw [e12]; exact (xu_ne (by omega)).trans (hof a h8 h9)
  refine lv_aload_n hx hb dX8_book_131 rfl (lv_at hl 4 rfl) ?_
  refine lv_aload_n hx hb dX8_book_132 rfl (lv_at hl 4 rfl) ?_
  refine x_get (ref := RX8) (C := RX8) (T := TX8) (N := 8) (ci := 8) (v := .ref (q + 1)) hx hb hts iX8 hown hK.1.1 hP (by omega) (by omega) hM.self rfl 1 (by decide) (hts (.fieldLink RX8 10 "PoreFieldModel" "field" "LPoreFieldModel$Field;") (by decide +kernel)) (fun _ h9 => h9) rfl dX8_book_133 ?_
  refine x_get (ref := RX7) (C := RX7) (T := TX7) (N := 14) (ci := 7) (v := .int (0 : Int32)) hx hb hts iX7 hown hK.1.1 hP (by omega) (by omega) hF.self rfl 9 (by decide) (hts (.fieldLink RX8 40 "PoreFieldModel$Field" "wellCount" "I") (by decide +kernel)) (fun _ h9 => h9) rfl dX8_book_136 ?_
  refine x_put (ty := tyX8 7) (ref := RX8) (C := RX8) (T := TX8) (N := 8) (ci := 8) (v := .int (0 : Int32)) hx hb hts iX8 tyX8 tyX8_ok nmX8 hown hK.1.1 hP hS (by omega) (by omega) hM.self rfl 7 (by decide) (hts (.fieldLink RX8 121 "PoreFieldModel" "bookedWells" "I") (by decide +kernel)) (fun _ h9 => h9) rfl (by decide +kernel) rfl rfl (Nat.le_of_ble_eq_true rfl) dX8_book_139 (fun H locs hP hS => ?_)
  refine x_gen hP (fun v13 e13 hP => ?_)
  have hF : FM cy v13 (q + 1) 0 300 := by rw [e13]; exact hF.o (by omega)
  have hM : MM cy v13 q 0 5 1 0 0 := by rw [e13]; exact hM.up_self (th' := 0) (pr' := 5) (bk' := 1) (bo' := 0) (bw' := 0)
  have hnw : v13 (lo + ((n + 1 + 15) + 1 + 15)) = .inl (cy 0, 5, .inl (upd (upd (upd (upd (upd (fun _ => 0) 0 (0 : Int32)) 1 (0 : Int32)) 2 (0 : Int32)) 3 (0 : Int32)) 4 (0 : Int32))) := by rw [e13]; exact (xu_ne (by omega)).trans hnw
  have hof : ∀ a, a < lo + n → (a < q ∨ q + 22 ≤ a) → v13 a = w a := fun a h8 h9 => by rw [e13]; exact (xu_ne (by omega)).trans (hof a h8 h9)
  refine lv_iload_n hx hb dX8_book_142 rfl (lv_at hl 3 rfl) ?_
  have eS : r_book = (0, (0 : Int32)) := by unfold r_book; rfl
  refine x_szn (by omega) (by omega) hP (fun hzH => ?_)
  exact W.iret (v := (0 : Int32)) hx hb hr (fun tE ht hW => ⟨⟨(0 : Int32), v13, rfl, by rw [eS]; exact ⟨⟨_, hM.self⟩, fun _ => rfl, hof⟩, x_at ht hP, by rw [ht]; exact hzH⟩, hS.F ht⟩) hS.2.2 dX8_book_143

set_option maxRecDepth 100000 in
set_option maxHeartbeats 1000000 in
/-- <init> of the reckoner -/
theorem c_X8_init (l : Launch) (D : va_G) (cy : Nat → ClassId) (lo n : Nat) (w : Nat → va_E) (q : Nat) (h1 : lo ≤ q) (h2 : q + 1 = lo + n) : Met l yX8_init wsX8_init ({ frames := 2, cells := 21, slots := 235, locals := 51 }) (PcN D cy lo n (va_up w q (.inr (8, [.int 0, .null, .null, .null, .int 0, .int 0, .int 0, .int 0]))) [.ref q]) (va_Qv (fun (u : Nat → va_E) => MM cy u q 0 5 0 0 0 ∧ LB cy u q ∧ FM cy u (q + 1) 0 300 ∧ ∀ a, a < q → u a = w a) (fun u tE => va_P D vwCl (rl lo (n + 1 + 15 + 1 + 1 + 1 + 1 + 1) u) tE.heap ∧ tE.heap.size = lo + (n + 1 + 15 + 1 + 1 + 1 + 1 + 1)) (fun q : Nat => lo ≤ q)) 21 235 (fun q : Nat => lo ≤ q) := by
  refine Met.ofW (cc := cX8_init) (maxL := 1) (ret := none) (by decide) rfl ?_
  intro p e s m args below meth c s₁ B hml hv
  obtain ⟨rfl, hsz, hP, hK, hS⟩ := n_entry hv
  have hx := B.exec
  have hb := B.bytes
  have hr := B.returns
  have hts := atoms_spec (ws := wsX8_init) B.pre
  have hown : s.vm.findClass RX8 = some m.cls := findClass_of_methodNamed B.named
  have hlocks := B.notSynchronized
  have hin2 : meth.name = "<init>" := (name_of_methodNamed B.named B.method).1
  have iX7 : ∀ w ∈ u_ws RX7 TX7 14, w ∈ wsX8_init := by decide +kernel
  have iX8 : ∀ w ∈ u_ws RX8 TX8 8, w ∈ wsX8_init := by decide +kernel
  have hl := lv_entry ([.ref q]) (n := 1) (Nat.le_of_ble_eq_true rfl)
  rw [lg_entry_eq]
  generalize (lg_sl ([.ref q]) ++ List.replicate (1 - (lg_sl ([.ref q])).length) Slot.unset).toArray = ls at hl ⊢
  have hl : lv_has ls 1 [(0, .ref q)] := hl
  have hAi : AOA .int s := hK.1.2.2
  have hs8 : va_up w q (.inr (8, [.int 0, .null, .null, .null, .int 0, .int 0, .int 0, .int 0])) q = .inr (8, [.int 0, .null, .null, .null, .int 0, .int 0, .int 0, .int 0]) := xu_same _ _ _
  have hlow : ∀ a, a < q → va_up w q (.inr (8, [.int 0, .null, .null, .null, .int 0, .int 0, .int 0, .int 0])) a = w a := fun a ha => xu_ne (by omega)
  refine lv_aload_n hx hb dX8_init_0 rfl (lv_at hl 0 rfl) ?_
  refine W.objInit hx hb hown (hts (.methodLink RX8 1 objectInit) (by decide +kernel)) (hts (.instanceMethod objectInit) (by decide +kernel)) (hts (.code objectInit ⟨#[0xb1]⟩ 1 none) (by decide +kernel)) rfl (by rw [hml]; exact hl.1) rfl dX8_init_1 (Nat.le_of_ble_eq_true rfl) (Nat.le_of_ble_eq_true rfl) ?_
  refine lv_aload_n hx hb dX8_init_4 rfl (lv_at hl 0 rfl) ?_
  refine n_new (C := RX7) (T := TX7) (N := 14) (ci := 7) (fs := [.null, .null, .null, .null, .null, .null, .null, .null, .null, .int 0, .int 0, .int 0, .int 0, .int 0]) (q0 := q + 1) hx hb hts iX7 tyX7 tyX7_ok hown (hts (.classLink RX8 7 RX7) (by decide +kernel)) (hts (.instantiable RX7 14) (by decide +kernel)) (hts (.initialized RX7) (by decide +kernel)) hK.1.1 hP hS (by omega) (by omega) (by omega) rfl (fun j hj => by rcases (by omega : j = 0 ∨ j = 1 ∨ j = 2 ∨ j = 3 ∨ j = 4 ∨ j = 5 ∨ j = 6 ∨ j = 7 ∨ j = 8 ∨ j = 9 ∨ j = 10 ∨ j = 11 ∨ j = 12 ∨ j = 13) with rfl | rfl | rfl | rfl | rfl | rfl | rfl | rfl | rfl | rfl | rfl | rfl | rfl | rfl <;> rfl) (by show _ ≤ 21; omega) (by show _ ≤ 235; omega) dX8_init_5 (fun H hP hS => ?_)
  refine lv_dup hx hb dX8_init_8 rfl ?_
  refine x_szn (by omega) (by omega) hP (fun hzH => ?_)
  refine x_callN (va_runI (As := []) (rest := [.ref (q + 1), .ref q]) ⟨hx, hb, hml, hown, hts⟩ (c_X7_init l D cy lo (n + 1) (va_up w q (.inr (8, [.int 0, .null, .null, .null, .int 0, .int 0, .int 0, .int 0]))) (q + 1) (by omega) (by omega)) (cwI 0 hts ggX8_init_X7_init rfl rfl rfl (hts (.initialized RX7) (by decide +kernel)) (hts (.methodLink RX8 9 yX7_init) (by decide +kernel)) (hts (.instanceMethod yX7_init) (by decide +kernel)) rfl (by decide +kernel) ⟨Nat.le_of_ble_eq_true rfl, Nat.le_of_ble_eq_true rfl⟩) (preSN hzH hP hK) rfl rfl hl.1 rfl (lv_room (Nat.le_of_ble_eq_true rfl)) dX8_init_9 ⟨by show _ ≤ 21; omega, by show _ ≤ 235; omega⟩) hS (fun u0 H locs hX hP hzH hS => ?_)
  obtain ⟨hF, hlow9⟩ := hX
  have hs8 := (hlow9 q (by omega)).trans hs8
  have hlow : ∀ a, a < q → u0 a = w a := fun a ha => (hlow9 a (by omega)).trans (hlow a ha)
  refine x_putF (ty := tyX8 1) (ref := RX8) (C := RX8) (T := TX8) (N := 8) (ci := 8) (v := .ref (q + 1)) hx hb hts iX8 tyX8 tyX8_ok nmX8 hown hK.1.1 hP hS (by omega) (by omega) hs8 rfl 1 (by decide) (hts (.fieldLink RX8 10 "PoreFieldModel" "field" "LPoreFieldModel$Field;") (by decide +kernel)) (fun _ h9 => h9) rfl hin2 rfl (by decide +kernel) rfl rfl (Nat.le_of_ble_eq_true rfl) dX8_init_12 (fun H locs hP hS => ?_)
  refine x_gen hP (fun v1 e1 hP => ?_)
  have hF : FM cy v1 (q + 1) 0 300 := by rw [e1]; exact hF.o (by omega)
  have hs8 : v1 q = .inr (8, [.int (0 : Int32), .ref (q + 1), .null, .null, .int (0 : Int32), .int (0 : Int32), .int (0 : Int32), .int (0 : Int32)]) := by rw [e1]; exact xu_same _ _ _
  have hlow : ∀ a, a < q → v1 a = w a := fun a ha => by rw [e1]; exact (xu_ne (by omega)).trans (hlow a ha)
  refine lv_aload_n hx hb dX8_init_15 rfl (lv_at hl 0 rfl) ?_
  refine lv_iconst (v := 3) hx hb dX8_init_16 (by decide) ?_
  have ea : lo + (n + 1 + 15) = q + 17 := by omega
  refine x_newA hx hb hown (hts (.classLink RX8 16 "[I") (by decide +kernel)) hAi hK.1.1 hP hS (by omega) (by omega) (N := 3) 6 rfl (by decide) (by decide) (by omega) (by show _ ≤ 21; omega) (by show _ ≤ 235; omega) dX8_init_17 (fun H hP hS => ?_)
  rw [ea] at hP ⊢
  refine x_gen hP (fun v2 e2 hP => ?_)
  have hF : FM cy v2 (q + 1) 0 300 := by rw [e2]; exact hF.o (by omega)
  have hs8 : v2 q = .inr (8, [.int (0 : Int32), .ref (q + 1), .null, .null, .int (0 : Int32), .int (0 : Int32), .int (0 : Int32), .int (0 : Int32)]) := by rw [e2]; exact (xu_ne (by omega)).trans hs8
  have hlow : ∀ a, a < q → v2 a = w a := fun a ha => by rw [e2]; exact (xu_ne (by omega)).trans (hlow a ha)
  have hpo : v2 (q + 17) = .inl (cy 6, 3, .inr (.inr (.inr (.inr (fun _ => none))))) := by rw [e2]; exact xu_same _ _ _
  refine lv_dup hx hb dX8_init_20 rfl ?_
  refine lv_iconst (v := 0) hx hb dX8_init_21 (by decide) ?_
  refine lv_iconst (v := 4) hx hb dX8_init_22 (by decide) ?_
  refine n_newi (q0 := q + 18) (N := 4) hx hb (hts (.arrayClass .int) (by decide +kernel)) hK.1.1 hP hS (by omega) (by omega) (by omega) 0 rfl (by decide) (by decide) (by omega) (by show _ ≤ 21; omega) (by show _ ≤ 235; omega) dX8_init_23 (fun H hP hS => ?_)
  refine x_gen hP (fun v3 e3 hP => ?_)
  have hF : FM cy v3 (q + 1) 0 300 := by rw [e3]; exact hF.o (by omega)
  have hs8 : v3 q = .inr (8, [.int (0 : Int32), .ref (q + 1), .null, .null, .int (0 : Int32), .int (0 : Int32), .int (0 : Int32), .int (0 : Int32)]) := by rw [e3]; exact (xu_ne (by omega)).trans hs8
  have hpo : v3 (q + 17) = .inl (cy 6, 3, .inr (.inr (.inr (.inr (fun _ => none))))) := by rw [e3]; exact (xu_ne (by omega)).trans hpo
  have hlow : ∀ a, a < q → v3 a = w a := fun a ha => by rw [e3]; exact (xu_ne (by omega)).trans (hlow a ha)
  have h_r0 : v3 (q + 18) = .inl (cy 0, 4, .inl (fun _ => 0)) := by rw [e3]; exact xu_same _ _ _
  refine lv_dup hx hb dX8_init_25 rfl ?_
  refine lv_iconst (v := 0) hx hb dX8_init_26 (by decide) ?_
  refine lv_bipush (v := 100) hx hb dX8_init_27 (by decide) ?_
  refine x_iast hx hb hK.1.1 hP hS (by omega) (by omega) 0 h_r0 rfl (cl_of_nI (i := 0) rfl (by omega)) (vp_in_of_nI (i := 0) rfl (by omega) (by omega)) dX8_init_29 (fun H locs hP hS => ?_)
  refine x_gen hP (fun v4 e4 hP => ?_)
  have hF : FM cy v4 (q + 1) 0 300 := by rw [e4]; exact hF.o (by omega)
  have hs8 : v4 q = .inr (8, [.int (0 : Int32), .ref (q + 1), .null, .null, .int (0 : Int32), .int (0 : Int32), .int (0 : Int32), .int (0 : Int32)]) := by rw [e4]; exact (xu_ne (by omega)).trans hs8
  have hpo : v4 (q + 17) = .inl (cy 6, 3, .inr (.inr (.inr (.inr (fun _ => none))))) := by rw [e4]; exact (xu_ne (by omega)).trans hpo
  have h_r0 : v4 (q + 18) = .inl (cy 0, 4, .inl (upd (fun _ => 0) 0 (100 : Int32))) := by rw [e4]; exact xu_same _ _ _
  have hlow : ∀ a, a < q → v4 a = w a := fun a ha => by rw [e4]; exact (xu_ne (by omega)).trans (hlow a ha)
  refine lv_dup hx hb dX8_init_30 rfl ?_
  refine lv_iconst (v := 1) hx hb dX8_init_31 (by decide) ?_
  refine lv_iconst (v := 0) hx hb dX8_init_32 (by decide) ?_
  refine x_iast hx hb hK.1.1 hP hS (by omega) (by omega) 0 h_r0 rfl (cl_of_nI (i := 1) rfl (by omega)) (vp_in_of_nI (i := 1) rfl (by omega) (by omega)) dX8_init_33 (fun H locs hP hS => ?_)
  refine x_gen hP (fun v5 e5 hP => ?_)
  have hF : FM cy v5 (q + 1) 0 300 := by rw [e5]; exact hF.o (by omega)
  have hs8 : v5 q = .inr (8, [.int (0 : Int32), .ref (q + 1), .null, .null, .int (0 : Int32), .int (0 : Int32), .int (0 : Int32), .int (0 : Int32)]) := by rw [e5]; exact (xu_ne (by omega)).trans hs8
  have hpo : v5 (q + 17) = .inl (cy 6, 3, .inr (.inr (.inr (.inr (fun _ => none))))) := by rw [e5]; exact (xu_ne (by omega)).trans hpo
  have h_r0 : v5 (q + 18) = .inl (cy 0, 4, .inl (upd (upd (fun _ => 0) 0 (100 : Int32)) 1 (0 : Int32))) := by rw [e5]; exact xu_same _ _ _
  have hlow : ∀ a, a < q → v5 a = w a := fun a ha => by rw [e5]; exact (xu_ne (by omega)).trans (hlow a ha)
  refine lv_dup hx hb dX8_init_34 rfl ?_
  refine lv_iconst (v := 2) hx hb dX8_init_35 (by decide) ?_
  refine lv_iconst (v := 0) hx hb dX8_init_36 (by decide) ?_
  refine x_iast hx hb hK.1.1 hP hS (by omega) (by omega) 0 h_r0 rfl (cl_of_nI (i := 2) rfl (by omega)) (vp_in_of_nI (i := 2) rfl (by omega) (by omega)) dX8_init_37 (fun H locs hP hS => ?_)
  refine x_gen hP (fun v6 e6 hP => ?_)
  have hF : FM cy v6 (q + 1) 0 300 := by rw [e6]; exact hF.o (by omega)
  have hs8 : v6 q = .inr (8, [.int (0 : Int32), .ref (q + 1), .null, .null, .int (0 : Int32), .int (0 : Int32), .int (0 : Int32), .int (0 : Int32)]) := by rw [e6]; exact (xu_ne (by omega)).trans hs8
  have hpo : v6 (q + 17) = .inl (cy 6, 3, .inr (.inr (.inr (.inr (fun _ => none))))) := by rw [e6]; exact (xu_ne (by omega)).trans hpo
  have h_r0 : v6 (q + 18) = .inl (cy 0, 4, .inl (upd (upd (upd (fun _ => 0) 0 (100 : Int32)) 1 (0 : Int32)) 2 (0 : Int32))) := by rw [e6]; exact xu_same _ _ _
  have hlow : ∀ a, a < q → v6 a = w a := fun a ha => by rw [e6]; exact (xu_ne (by omega)).trans (hlow a ha)
  refine lv_dup hx hb dX8_init_38 rfl ?_
  refine lv_iconst (v := 3) hx hb dX8_init_39 (by decide) ?_
  refine lv_iconst (v := 0) hx hb dX8_init_40 (by decide) ?_
  refine x_iast hx hb hK.1.1 hP hS (by omega) (by omega) 0 h_r0 rfl (cl_of_nI (i := 3) rfl (by omega)) (vp_in_of_nI (i := 3) rfl (by omega) (by omega)) dX8_init_41 (fun H locs hP hS => ?_)
  refine x_gen hP (fun v7 e7 hP => ?_)
  have hF : FM cy v7 (q + 1) 0 300 := by rw [e7]; exact hF.o (by omega)
  have hs8 : v7 q = .inr (8, [.int (0 : Int32), .ref (q + 1), .null, .null, .int (0 : Int32), .int (0 : Int32), .int (0 : Int32), .int (0 : Int32)]) := by rw [e7]; exact (xu_ne (by omega)).trans hs8
  have hpo : v7 (q + 17) = .inl (cy 6, 3, .inr (.inr (.inr (.inr (fun _ => none))))) := by rw [e7]; exact (xu_ne (by omega)).trans hpo
  have h_r0 : v7 (q + 18) = .inl (cy 0, 4, .inl (upd (upd (upd (upd (fun _ => 0) 0 (100 : Int32)) 1 (0 : Int32)) 2 (0 : Int32)) 3 (0 : Int32))) := by rw [e7]; exact xu_same _ _ _
  have hlow : ∀ a, a < q → v7 a = w a := fun a ha => by rw [e7]; exact (xu_ne (by omega)).trans (hlow a ha)
  refine x_aastA hx hb hK.1.1 hAi hP hS (by omega) (by omega) (by omega) (by omega) 6 0 hpo rfl h_r0 rfl (cl_of_nI (i := 0) rfl (by omega)) (vp_in_of_nI (i := 0) rfl (by omega) (by omega)) dX8_init_42 (fun H locs hP hS => ?_)
  refine x_gen hP (fun v8 e8 hP => ?_)
  have hF : FM cy v8 (q + 1) 0 300 := by rw [e8]; exact hF.o (by omega)
  have hs8 : v8 q = .inr (8, [.int (0 : Int32), .ref (q + 1), .null, .null, .int (0 : Int32), .int (0 : Int32), .int (0 : Int32), .int (0 : Int32)]) := by rw [e8]; exact (xu_ne (by omega)).trans hs8
  have hpo : v8 (q + 17) = .inl (cy 6, 3, .inr (.inr (.inr (.inr (va_up (fun _ => none) 0 (some (q + 18))))))) := by rw [e8]; exact xu_same _ _ _
  have h_r0 : v8 (q + 18) = .inl (cy 0, 4, .inl (upd (upd (upd (upd (fun _ => 0) 0 (100 : Int32)) 1 (0 : Int32)) 2 (0 : Int32)) 3 (0 : Int32))) := by rw [e8]; exact (xu_ne (by omega)).trans h_r0
  have hlow : ∀ a, a < q → v8 a = w a := fun a ha => by rw [e8]; exact (xu_ne (by omega)).trans (hlow a ha)
  refine lv_dup hx hb dX8_init_43 rfl ?_
  refine lv_iconst (v := 1) hx hb dX8_init_44 (by decide) ?_
  refine lv_iconst (v := 4) hx hb dX8_init_45 (by decide) ?_
  refine n_newi (q0 := q + 19) (N := 4) hx hb (hts (.arrayClass .int) (by decide +kernel)) hK.1.1 hP hS (by omega) (by omega) (by omega) 0 rfl (by decide) (by decide) (by omega) (by show _ ≤ 21; omega) (by show _ ≤ 235; omega) dX8_init_46 (fun H hP hS => ?_)
  refine x_gen hP (fun v9 e9 hP => ?_)
  have hF : FM cy v9 (q + 1) 0 300 := by rw [e9]; exact hF.o (by omega)
  have hs8 : v9 q = .inr (8, [.int (0 : Int32), .ref (q + 1), .null, .null, .int (0 : Int32), .int (0 : Int32), .int (0 : Int32), .int (0 : Int32)]) := by rw [e9]; exact (xu_ne (by omega)).trans hs8
  have hpo : v9 (q + 17) = .inl (cy 6, 3, .inr (.inr (.inr (.inr (va_up (fun _ => none) 0 (some (q + 18))))))) := by rw [e9]; exact (xu_ne (by omega)).trans hpo
  have h_r0 : v9 (q + 18) = .inl (cy 0, 4, .inl (upd (upd (upd (upd (fun _ => 0) 0 (100 : Int32)) 1 (0 : Int32)) 2 (0 : Int32)) 3 (0 : Int32))) := by rw [e9]; exact (xu_ne (by omega)).trans h_r0
  have hlow : ∀ a, a < q → v9 a = w a := fun a ha => by rw [e9]; exact (xu_ne (by omega)).trans (hlow a ha)
  have h_r1 : v9 (q + 19) = .inl (cy 0, 4, .inl (fun _ => 0)) := by rw [e9]; exact xu_same _ _ _
  refine lv_dup hx hb dX8_init_48 rfl ?_
  refine lv_iconst (v := 0) hx hb dX8_init_49 (by decide) ?_
  refine lv_iconst (v := 0) hx hb dX8_init_50 (by decide) ?_
  refine x_iast hx hb hK.1.1 hP hS (by omega) (by omega) 0 h_r1 rfl (cl_of_nI (i := 0) rfl (by omega)) (vp_in_of_nI (i := 0) rfl (by omega) (by omega)) dX8_init_51 (fun H locs hP hS => ?_)
  refine x_gen hP (fun v10 e10 hP => ?_)
  have hF : FM cy v10 (q + 1) 0 300 := by rw [e10]; exact hF.o (by omega)
  have hs8 : v10 q = .inr (8, [.int (0 : Int32), .ref (q + 1), .null, .null, .int (0 : Int32), .int (0 : Int32), .int (0 : Int32), .int (0 : Int32)]) := by rw [e10]; exact (xu_ne (by omega)).trans hs8
  have hpo : v10 (q + 17) = .inl (cy 6, 3, .inr (.inr (.inr (.inr (va_up (fun _ => none) 0 (some (q + 18))))))) := by rw [e10]; exact (xu_ne (by omega)).trans hpo
  have h_r0 : v10 (q + 18) = .inl (cy 0, 4, .inl (upd (upd (upd (upd (fun _ => 0) 0 (100 : Int32)) 1 (0 : Int32)) 2 (0 : Int32)) 3 (0 : Int32))) := by rw [e10]; exact (xu_ne (by omega)).trans h_r0
  have h_r1 : v10 (q + 19) = .inl (cy 0, 4, .inl (upd (fun _ => 0) 0 (0 : Int32))) := by rw [e10]; exact xu_same _ _ _
  have hlow : ∀ a, a < q → v10 a = w a := fun a ha => by rw [e10]; exact (xu_ne (by omega)).trans (hlow a ha)
  refine lv_dup hx hb dX8_init_52 rfl ?_
  refine lv_iconst (v := 1) hx hb dX8_init_53 (by decide) ?_
  refine lv_iconst (v := 0) hx hb dX8_init_54 (by decide) ?_
  refine x_iast hx hb hK.1.1 hP hS (by omega) (by omega) 0 h_r1 rfl (cl_of_nI (i := 1) rfl (by omega)) (vp_in_of_nI (i := 1) rfl (by omega) (by omega)) dX8_init_55 (fun H locs hP hS => ?_)
  refine x_gen hP (fun v11 e11 hP => ?_)
  have hF : FM cy v11 (q + 1) 0 300 := by rw [e11]; exact hF.o (by omega)
  have hs8 : v11 q = .inr (8, [.int (0 : Int32), .ref (q + 1), .null, .null, .int (0 : Int32), .int (0 : Int32), .int (0 : Int32), .int (0 : Int32)]) := by rw [e11]; exact (xu_ne (by omega)).trans hs8
  have hpo : v11 (q + 17) = .inl (cy 6, 3, .inr (.inr (.inr (.inr (va_up (fun _ => none) 0 (some (q + 18))))))) := by rw [e11]; exact (xu_ne (by omega)).trans hpo
  have h_r0 : v11 (q + 18) = .inl (cy 0, 4, .inl (upd (upd (upd (upd (fun _ => 0) 0 (100 : Int32)) 1 (0 : Int32)) 2 (0 : Int32)) 3 (0 : Int32))) := by rw [e11]; exact (xu_ne (by omega)).trans h_r0
  have h_r1 : v11 (q + 19) = .inl (cy 0, 4, .inl (upd (upd (fun _ => 0) 0 (0 : Int32)) 1 (0 : Int32))) := by rw [e11]; exact xu_same _ _ _
  have hlow : ∀ a, a < q → v11 a = w a := fun a ha => by rw [e11]; exact (xu_ne (by omega)).trans (hlow a ha)
  refine lv_dup hx hb dX8_init_56 rfl ?_
  refine lv_iconst (v := 2) hx hb dX8_init_57 (by decide) ?_
  refine lv_iconst (v := 0) hx hb dX8_init_58 (by decide) ?_
  refine x_iast hx hb hK.1.1 hP hS (by omega) (by omega) 0 h_r1 rfl (cl_of_nI (i := 2) rfl (by omega)) (vp_in_of_nI (i := 2) rfl (by omega) (by omega)) dX8_init_59 (fun H locs hP hS => ?_)
  refine x_gen hP (fun v12 e12 hP => ?_)
  have hF : FM cy v12 (q + 1) 0 300 := by rw [e12]; exact hF.o (by omega)
  have hs8 : v12 q = .inr (8, [.int (0 : Int32), .ref (q + 1), .null, .null, .int (0 : Int32), .int (0 : Int32), .int (0 : Int32), .int (0 : Int32)]) := by rw [e12]; exact (xu_ne (by omega)).trans hs8
  have hpo : v12 (q + 17) = .inl (cy 6, 3, .inr (.inr (.inr (.inr (va_up (fun _ => none) 0 (some (q + 18))))))) := by rw [e12]; exact (xu_ne (by omega)).trans hpo
  have h_r0 : v12 (q + 18) = .inl (cy 0, 4, .inl (upd (upd (upd (upd (fun _ => 0) 0 (100 : Int32)) 1 (0 : Int32)) 2 (0 : Int32)) 3 (0 : Int32))) := by rw [e12]; exact (xu_ne (by omega)).trans h_r0
  have h_r1 : v12 (q + 19) = .inl (cy 0, 4, .inl (upd (upd (upd (fun _ => 0) 0 (0 : Int32)) 1 (0 : Int32)) 2 (0 : Int32))) := by rw [e12]; exact xu_same _ _ _
  have hlow : ∀ a, a < q → v12 a = w a := fun a ha => by rw [e12]; exact (xu_ne (by omega)).trans (hlow a ha)
  refine lv_dup hx hb dX8_init_60 rfl ?_
  refine lv_iconst (v := 3) hx hb dX8_init_61 (by decide) ?_
  refine lv_iconst (v := 0) hx hb dX8_init_62 (by decide) ?_
  refine x_iast hx hb hK.1.1 hP hS (by omega) (by omega) 0 h_r1 rfl (cl_of_nI (i := 3) rfl (by omega)) (vp_in_of_nI (i := 3) rfl (by omega) (by omega)) dX8_init_63 (fun H locs hP hS => ?_)
  refine x_gen hP (fun v13 e13 hP => ?_)
  have hF : FM cy v13 (q + 1) 0 300 := by rw [e13]; exact hF.o (by omega)
  have hs8 : v13 q = .inr (8, [.int (0 : Int32), .ref (q + 1), .null, .null, .int (0 : Int32), .int (0 : Int32), .int (0 : Int32), .int (0 : Int32)]) := by rw [e13]; exact (xu_ne (by omega)).trans hs8
  have hpo : v13 (q + 17) = .inl (cy 6, 3, .inr (.inr (.inr (.inr (va_up (fun _ => none) 0 (some (q + 18))))))) := by rw [e13]; exact (xu_ne (by omega)).trans hpo
  have h_r0 : v13 (q + 18) = .inl (cy 0, 4, .inl (upd (upd (upd (upd (fun _ => 0) 0 (100 : Int32)) 1 (0 : Int32)) 2 (0 : Int32)) 3 (0 : Int32))) := by rw [e13]; exact (xu_ne (by omega)).trans h_r0
  have h_r1 : v13 (q + 19) = .inl (cy 0, 4, .inl (upd (upd (upd (upd (fun _ => 0) 0 (0 : Int32)) 1 (0 : Int32)) 2 (0 : Int32)) 3 (0 : Int32))) := by rw [e13]; exact xu_same _ _ _
  have hlow : ∀ a, a < q → v13 a = w a := fun a ha => by rw [e13]; exact (xu_ne (by omega)).trans (hlow a ha)
  refine x_aastA hx hb hK.1.1 hAi hP hS (by omega) (by omega) (by omega) (by omega) 6 0 hpo rfl h_r1 rfl (cl_of_nI (i := 1) rfl (by omega)) (vp_in_of_nI (i := 1) rfl (by omega) (by omega)) dX8_init_64 (fun H locs hP hS => ?_)
  refine x_gen hP (fun v14 e14 hP => ?_)
  have hF : FM cy v14 (q + 1) 0 300 := by rw [e14]; exact hF.o (by omega)
  have hs8 : v14 q = .inr (8, [.int (0 : Int32), .ref (q + 1), .null, .null, .int (0 : Int32), .int (0 : Int32), .int (0 : Int32), .int (0 : Int32)]) := by rw [e14]; exact (xu_ne (by omega)).trans hs8
  have hpo : v14 (q + 17) = .inl (cy 6, 3, .inr (.inr (.inr (.inr (va_up (va_up (fun _ => none) 0 (some (q + 18))) 1 (some (q + 19))))))) := by rw [e14]; exact xu_same _ _ _
  have h_r0 : v14 (q + 18) = .inl (cy 0, 4, .inl (upd (upd (upd (upd (fun _ => 0) 0 (100 : Int32)) 1 (0 : Int32)) 2 (0 : Int32)) 3 (0 : Int32))) := by rw [e14]; exact (xu_ne (by omega)).trans h_r0
  have h_r1 : v14 (q + 19) = .inl (cy 0, 4, .inl (upd (upd (upd (upd (fun _ => 0) 0 (0 : Int32)) 1 (0 : Int32)) 2 (0 : Int32)) 3 (0 : Int32))) := by rw [e14]; exact (xu_ne (by omega)).trans h_r1
  have hlow : ∀ a, a < q → v14 a = w a := fun a ha => by rw [e14]; exact (xu_ne (by omega)).trans (hlow a ha)
  refine lv_dup hx hb dX8_init_65 rfl ?_
  refine lv_iconst (v := 2) hx hb dX8_init_66 (by decide) ?_
  refine lv_iconst (v := 4) hx hb dX8_init_67 (by decide) ?_
  refine n_newi (q0 := q + 20) (N := 4) hx hb (hts (.arrayClass .int) (by decide +kernel)) hK.1.1 hP hS (by omega) (by omega) (by omega) 0 rfl (by decide) (by decide) (by omega) (by show _ ≤ 21; omega) (by show _ ≤ 235; omega) dX8_init_68 (fun H hP hS => ?_)
  refine x_gen hP (fun v15 e15 hP => ?_)
  have hF : FM cy v15 (q + 1) 0 300 := by rw [e15]; exact hF.o (by omega)
  have hs8 : v15 q = .inr (8, [.int (0 : Int32), .ref (q + 1), .null, .null, .int (0 : Int32), .int (0 : Int32), .int (0 : Int32), .int (0 : Int32)]) := by rw [e15]; exact (xu_ne (by omega)).trans hs8
  have hpo : v15 (q + 17) = .inl (cy 6, 3, .inr (.inr (.inr (.inr (va_up (va_up (fun _ => none) 0 (some (q + 18))) 1 (some (q + 19))))))) := by rw [e15]; exact (xu_ne (by omega)).trans hpo
  have h_r0 : v15 (q + 18) = .inl (cy 0, 4, .inl (upd (upd (upd (upd (fun _ => 0) 0 (100 : Int32)) 1 (0 : Int32)) 2 (0 : Int32)) 3 (0 : Int32))) := by rw [e15]; exact (xu_ne (by omega)).trans h_r0
  have h_r1 : v15 (q + 19) = .inl (cy 0, 4, .inl (upd (upd (upd (upd (fun _ => 0) 0 (0 : Int32)) 1 (0 : Int32)) 2 (0 : Int32)) 3 (0 : Int32))) := by rw [e15]; exact (xu_ne (by omega)).trans h_r1
  have hlow : ∀ a, a < q → v15 a = w a := fun a ha => by rw [e15]; exact (xu_ne (by omega)).trans (hlow a ha)
  have h_r2 : v15 (q + 20) = .inl (cy 0, 4, .inl (fun _ => 0)) := by rw [e15]; exact xu_same _ _ _
  refine lv_dup hx hb dX8_init_70 rfl ?_
  refine lv_iconst (v := 0) hx hb dX8_init_71 (by decide) ?_
  refine lv_iconst (v := 0) hx hb dX8_init_72 (by decide) ?_
  refine x_iast hx hb hK.1.1 hP hS (by omega) (by omega) 0 h_r2 rfl (cl_of_nI (i := 0) rfl (by omega)) (vp_in_of_nI (i := 0) rfl (by omega) (by omega)) dX8_init_73 (fun H locs hP hS => ?_)
  refine x_gen hP (fun v16 e16 hP => ?_)
  have hF : FM cy v16 (q + 1) 0 300 := by rw [e16]; exact hF.o (by omega)
  have hs8 : v16 q = .inr (8, [.int (0 : Int32), .ref (q + 1), .null, .null, .int (0 : Int32), .int (0 : Int32), .int (0 : Int32), .int (0 : Int32)]) := by rw [e16]; exact (xu_ne (by omega)).trans hs8
  have hpo : v16 (q + 17) = .inl (cy 6, 3, .inr (.inr (.inr (.inr (va_up (va_up (fun _ => none) 0 (some (q + 18))) 1 (some (q + 19))))))) := by rw [e16]; exact (xu_ne (by omega)).trans hpo
  have h_r0 : v16 (q + 18) = .inl (cy 0, 4, .inl (upd (upd (upd (upd (fun _ => 0) 0 (100 : Int32)) 1 (0 : Int32)) 2 (0 : Int32)) 3 (0 : Int32))) := by rw [e16]; exact (xu_ne (by omega)).trans h_r0
  have h_r1 : v16 (q + 19) = .inl (cy 0, 4, .inl (upd (upd (upd (upd (fun _ => 0) 0 (0 : Int32)) 1 (0 : Int32)) 2 (0 : Int32)) 3 (0 : Int32))) := by rw [e16]; exact (xu_ne (by omega)).trans h_r1
  have h_r2 : v16 (q + 20) = .inl (cy 0, 4, .inl (upd (fun _ => 0) 0 (0 : Int32))) := by rw [e16]; exact xu_same _ _ _
  have hlow : ∀ a, a < q → v16 a = w a := fun a ha => by rw [e16]; exact (xu_ne (by omega)).trans (hlow a ha)
  refine lv_dup hx hb dX8_init_74 rfl ?_
  refine lv_iconst (v := 1) hx hb dX8_init_75 (by decide) ?_
  refine lv_iconst (v := 0) hx hb dX8_init_76 (by decide) ?_
  refine x_iast hx hb hK.1.1 hP hS (by omega) (by omega) 0 h_r2 rfl (cl_of_nI (i := 1) rfl (by omega)) (vp_in_of_nI (i := 1) rfl (by omega) (by omega)) dX8_init_77 (fun H locs hP hS => ?_)
  refine x_gen hP (fun v17 e17 hP => ?_)
  have hF : FM cy v17 (q + 1) 0 300 := by rw [e17]; exact hF.o (by omega)
  have hs8 : v17 q = .inr (8, [.int (0 : Int32), .ref (q + 1), .null, .null, .int (0 : Int32), .int (0 : Int32), .int (0 : Int32), .int (0 : Int32)]) := by rw [e17]; exact (xu_ne (by omega)).trans hs8
  have hpo : v17 (q + 17) = .inl (cy 6, 3, .inr (.inr (.inr (.inr (va_up (va_up (fun _ => none) 0 (some (q + 18))) 1 (some (q + 19))))))) := by rw [e17]; exact (xu_ne (by omega)).trans hpo
  have h_r0 : v17 (q + 18) = .inl (cy 0, 4, .inl (upd (upd (upd (upd (fun _ => 0) 0 (100 : Int32)) 1 (0 : Int32)) 2 (0 : Int32)) 3 (0 : Int32))) := by rw [e17]; exact (xu_ne (by omega)).trans h_r0
  have h_r1 : v17 (q + 19) = .inl (cy 0, 4, .inl (upd (upd (upd (upd (fun _ => 0) 0 (0 : Int32)) 1 (0 : Int32)) 2 (0 : Int32)) 3 (0 : Int32))) := by rw [e17]; exact (xu_ne (by omega)).trans h_r1
  have h_r2 : v17 (q + 20) = .inl (cy 0, 4, .inl (upd (upd (fun _ => 0) 0 (0 : Int32)) 1 (0 : Int32))) := by rw [e17]; exact xu_same _ _ _
  have hlow : ∀ a, a < q → v17 a = w a := fun a ha => by rw [e17]; exact (xu_ne (by omega)).trans (hlow a ha)
  refine lv_dup hx hb dX8_init_78 rfl ?_
  refine lv_iconst (v := 2) hx hb dX8_init_79 (by decide) ?_
  refine lv_iconst (v := 0) hx hb dX8_init_80 (by decide) ?_
  refine x_iast hx hb hK.1.1 hP hS (by omega) (by omega) 0 h_r2 rfl (cl_of_nI (i := 2) rfl (by omega)) (vp_in_of_nI (i := 2) rfl (by omega) (by omega)) dX8_init_81 (fun H locs hP hS => ?_)
  refine x_gen hP (fun v18 e18 hP => ?_)
  have hF : FM cy v18 (q + 1) 0 300 := by rw [e18]; exact hF.o (by omega)
  have hs8 : v18 q = .inr (8, [.int (0 : Int32), .ref (q + 1), .null, .null, .int (0 : Int32), .int (0 : Int32), .int (0 : Int32), .int (0 : Int32)]) := by rw [e18]; exact (xu_ne (by omega)).trans hs8
  have hpo : v18 (q + 17) = .inl (cy 6, 3, .inr (.inr (.inr (.inr (va_up (va_up (fun _ => none) 0 (some (q + 18))) 1 (some (q + 19))))))) := by rw [e18]; exact (xu_ne (by omega)).trans hpo
  have h_r0 : v18 (q + 18) = .inl (cy 0, 4, .inl (upd (upd (upd (upd (fun _ => 0) 0 (100 : Int32)) 1 (0 : Int32)) 2 (0 : Int32)) 3 (0 : Int32))) := by rw [e18]; exact (xu_ne (by omega)).trans h_r0
  have h_r1 : v18 (q + 19) = .inl (cy 0, 4, .inl (upd (upd (upd (upd (fun _ => 0) 0 (0 : Int32)) 1 (0 : Int32)) 2 (0 : Int32)) 3 (0 : Int32))) := by rw [e18]; exact (xu_ne (by omega)).trans h_r1
  have h_r2 : v18 (q + 20) = .inl (cy 0, 4, .inl (upd (upd (upd (fun _ => 0) 0 (0 : Int32)) 1 (0 : Int32)) 2 (0 : Int32))) := by rw [e18]; exact xu_same _ _ _
  have hlow : ∀ a, a < q → v18 a = w a := fun a ha => by rw [e18]; exact (xu_ne (by omega)).trans (hlow a ha)
  refine lv_dup hx hb dX8_init_82 rfl ?_
  refine lv_iconst (v := 3) hx hb dX8_init_83 (by decide) ?_
  refine lv_iconst (v := 0) hx hb dX8_init_84 (by decide) ?_
  refine x_iast hx hb hK.1.1 hP hS (by omega) (by omega) 0 h_r2 rfl (cl_of_nI (i := 3) rfl (by omega)) (vp_in_of_nI (i := 3) rfl (by omega) (by omega)) dX8_init_85 (fun H locs hP hS => ?_)
  refine x_gen hP (fun v19 e19 hP => ?_)
  have hF : FM cy v19 (q + 1) 0 300 := by rw [e19]; exact hF.o (by omega)
  have hs8 : v19 q = .inr (8, [.int (0 : Int32), .ref (q + 1), .null, .null, .int (0 : Int32), .int (0 : Int32), .int (0 : Int32), .int (0 : Int32)]) := by rw [e19]; exact (xu_ne (by omega)).trans hs8
  have hpo : v19 (q + 17) = .inl (cy 6, 3, .inr (.inr (.inr (.inr (va_up (va_up (fun _ => none) 0 (some (q + 18))) 1 (some (q + 19))))))) := by rw [e19]; exact (xu_ne (by omega)).trans hpo
  have h_r0 : v19 (q + 18) = .inl (cy 0, 4, .inl (upd (upd (upd (upd (fun _ => 0) 0 (100 : Int32)) 1 (0 : Int32)) 2 (0 : Int32)) 3 (0 : Int32))) := by rw [e19]; exact (xu_ne (by omega)).trans h_r0
  have h_r1 : v19 (q + 19) = .inl (cy 0, 4, .inl (upd (upd (upd (upd (fun _ => 0) 0 (0 : Int32)) 1 (0 : Int32)) 2 (0 : Int32)) 3 (0 : Int32))) := by rw [e19]; exact (xu_ne (by omega)).trans h_r1
  have h_r2 : v19 (q + 20) = .inl (cy 0, 4, .inl (upd (upd (upd (upd (fun _ => 0) 0 (0 : Int32)) 1 (0 : Int32)) 2 (0 : Int32)) 3 (0 : Int32))) := by rw [e19]; exact xu_same _ _ _
  have hlow : ∀ a, a < q → v19 a = w a := fun a ha => by rw [e19]; exact (xu_ne (by omega)).trans (hlow a ha)
  refine x_aastA hx hb hK.1.1 hAi hP hS (by omega) (by omega) (by omega) (by omega) 6 0 hpo rfl h_r2 rfl (cl_of_nI (i := 2) rfl (by omega)) (vp_in_of_nI (i := 2) rfl (by omega) (by omega)) dX8_init_86 (fun H locs hP hS => ?_)
  refine x_gen hP (fun v20 e20 hP => ?_)
  have hF : FM cy v20 (q + 1) 0 300 := by rw [e20]; exact hF.o (by omega)
  have hs8 : v20 q = .inr (8, [.int (0 : Int32), .ref (q + 1), .null, .null, .int (0 : Int32), .int (0 : Int32), .int (0 : Int32), .int (0 : Int32)]) := by rw [e20]; exact (xu_ne (by omega)).trans hs8
  have hpo : v20 (q + 17) = .inl (cy 6, 3, .inr (.inr (.inr (.inr (va_up (va_up (va_up (fun _ => none) 0 (some (q + 18))) 1 (some (q + 19))) 2 (some (q + 20))))))) := by rw [e20]; exact xu_same _ _ _
  have h_r0 : v20 (q + 18) = .inl (cy 0, 4, .inl (upd (upd (upd (upd (fun _ => 0) 0 (100 : Int32)) 1 (0 : Int32)) 2 (0 : Int32)) 3 (0 : Int32))) := by rw [e20]; exact (xu_ne (by omega)).trans h_r0
  have h_r1 : v20 (q + 19) = .inl (cy 0, 4, .inl (upd (upd (upd (upd (fun _ => 0) 0 (0 : Int32)) 1 (0 : Int32)) 2 (0 : Int32)) 3 (0 : Int32))) := by rw [e20]; exact (xu_ne (by omega)).trans h_r1
  have h_r2 : v20 (q + 20) = .inl (cy 0, 4, .inl (upd (upd (upd (upd (fun _ => 0) 0 (0 : Int32)) 1 (0 : Int32)) 2 (0 : Int32)) 3 (0 : Int32))) := by rw [e20]; exact (xu_ne (by omega)).trans h_r2
  have hlow : ∀ a, a < q → v20 a = w a := fun a ha => by rw [e20]; exact (xu_ne (by omega)).trans (hlow a ha)
  refine x_putF (ty := tyX8 2) (ref := RX8) (C := RX8) (T := TX8) (N := 8) (ci := 8) (v := .ref (q + 17)) hx hb hts iX8 tyX8 tyX8_ok nmX8 hown hK.1.1 hP hS (by omega) (by omega) hs8 rfl 2 (by decide) (hts (.fieldLink RX8 18 "PoreFieldModel" "partners" "[[I") (by decide +kernel)) (fun _ h9 => h9) rfl hin2 rfl (by decide +kernel) rfl rfl (Nat.le_of_ble_eq_true rfl) dX8_init_87 (fun H locs hP hS => ?_)
  refine x_gen hP (fun v21 e21 hP => ?_)
  have hF : FM cy v21 (q + 1) 0 300 := by rw [e21]; exact hF.o (by omega)
  have hs8 : v21 q = .inr (8, [.int (0 : Int32), .ref (q + 1), .ref (q + 17), .null, .int (0 : Int32), .int (0 : Int32), .int (0 : Int32), .int (0 : Int32)]) := by rw [e21]; exact xu_same _ _ _
  have hpo : v21 (q + 17) = .inl (cy 6, 3, .inr (.inr (.inr (.inr (va_up (va_up (va_up (fun _ => none) 0 (some (q + 18))) 1 (some (q + 19))) 2 (some (q + 20))))))) := by rw [e21]; exact (xu_ne (by omega)).trans hpo
  have h_r0 : v21 (q + 18) = .inl (cy 0, 4, .inl (upd (upd (upd (upd (fun _ => 0) 0 (100 : Int32)) 1 (0 : Int32)) 2 (0 : Int32)) 3 (0 : Int32))) := by rw [e21]; exact (xu_ne (by omega)).trans h_r0
  have h_r1 : v21 (q + 19) = .inl (cy 0, 4, .inl (upd (upd (upd (upd (fun _ => 0) 0 (0 : Int32)) 1 (0 : Int32)) 2 (0 : Int32)) 3 (0 : Int32))) := by rw [e21]; exact (xu_ne (by omega)).trans h_r1
  have h_r2 : v21 (q + 20) = .inl (cy 0, 4, .inl (upd (upd (upd (upd (fun _ => 0) 0 (0 : Int32)) 1 (0 : Int32)) 2 (0 : Int32)) 3 (0 : Int32))) := by rw [e21]; exact (xu_ne (by omega)).trans h_r2
  have hlow : ∀ a, a < q → v21 a = w a := fun a ha => by rw [e21]; exact (xu_ne (by omega)).trans (hlow a ha)
  refine lv_aload_n hx hb dX8_init_90 rfl (lv_at hl 0 rfl) ?_
  refine lv_iconst (v := 5) hx hb dX8_init_91 (by decide) ?_
  refine n_newi (q0 := q + 21) (N := 5) hx hb (hts (.arrayClass .int) (by decide +kernel)) hK.1.1 hP hS (by omega) (by omega) (by omega) 0 rfl (by decide) (by decide) (by omega) (by show _ ≤ 21; omega) (by show _ ≤ 235; omega) dX8_init_92 (fun H hP hS => ?_)
  refine x_gen hP (fun v22 e22 hP => ?_)
  have hF : FM cy v22 (q + 1) 0 300 := by rw [e22]; exact hF.o (by omega)
  have hs8 : v22 q = .inr (8, [.int (0 : Int32), .ref (q + 1), .ref (q + 17), .null, .int (0 : Int32), .int (0 : Int32), .int (0 : Int32), .int (0 : Int32)]) := by rw [e22]; exact (xu_ne (by omega)).trans hs8
  have hpo : v22 (q + 17) = .inl (cy 6, 3, .inr (.inr (.inr (.inr (va_up (va_up (va_up (fun _ => none) 0 (some (q + 18))) 1 (some (q + 19))) 2 (some (q + 20))))))) := by rw [e22]; exact (xu_ne (by omega)).trans hpo
  have h_r0 : v22 (q + 18) = .inl (cy 0, 4, .inl (upd (upd (upd (upd (fun _ => 0) 0 (100 : Int32)) 1 (0 : Int32)) 2 (0 : Int32)) 3 (0 : Int32))) := by rw [e22]; exact (xu_ne (by omega)).trans h_r0
  have h_r1 : v22 (q + 19) = .inl (cy 0, 4, .inl (upd (upd (upd (upd (fun _ => 0) 0 (0 : Int32)) 1 (0 : Int32)) 2 (0 : Int32)) 3 (0 : Int32))) := by rw [e22]; exact (xu_ne (by omega)).trans h_r1
  have h_r2 : v22 (q + 20) = .inl (cy 0, 4, .inl (upd (upd (upd (upd (fun _ => 0) 0 (0 : Int32)) 1 (0 : Int32)) 2 (0 : Int32)) 3 (0 : Int32))) := by rw [e22]; exact (xu_ne (by omega)).trans h_r2
  have hlow : ∀ a, a < q → v22 a = w a := fun a ha => by rw [e22]; exact (xu_ne (by omega)).trans (hlow a ha)
  have hlb : v22 (q + 21) = .inl (cy 0, 5, .inl (fun _ => 0)) := by rw [e22]; exact xu_same _ _ _
  refine lv_dup hx hb dX8_init_94 rfl ?_
  refine lv_iconst (v := 0) hx hb dX8_init_95 (by decide) ?_
  refine lv_iconst (v := 0) hx hb dX8_init_96 (by decide) ?_
  refine x_iast hx hb hK.1.1 hP hS (by omega) (by omega) 0 hlb rfl (cl_of_nI (i := 0) rfl (by omega)) (vp_in_of_nI (i := 0) rfl (by omega) (by omega)) dX8_init_97 (fun H locs hP hS => ?_)
  refine x_gen hP (fun v23 e23 hP => ?_)
  have hF : FM cy v23 (q + 1) 0 300 := by rw [e23]; exact hF.o (by omega)
  have hs8 : v23 q = .inr (8, [.int (0 : Int32), .ref (q + 1), .ref (q + 17), .null, .int (0 : Int32), .int (0 : Int32), .int (0 : Int32), .int (0 : Int32)]) := by rw [e23]; exact (xu_ne (by omega)).trans hs8
  have hpo : v23 (q + 17) = .inl (cy 6, 3, .inr (.inr (.inr (.inr (va_up (va_up (va_up (fun _ => none) 0 (some (q + 18))) 1 (some (q + 19))) 2 (some (q + 20))))))) := by rw [e23]; exact (xu_ne (by omega)).trans hpo
  have h_r0 : v23 (q + 18) = .inl (cy 0, 4, .inl (upd (upd (upd (upd (fun _ => 0) 0 (100 : Int32)) 1 (0 : Int32)) 2 (0 : Int32)) 3 (0 : Int32))) := by rw [e23]; exact (xu_ne (by omega)).trans h_r0
  have h_r1 : v23 (q + 19) = .inl (cy 0, 4, .inl (upd (upd (upd (upd (fun _ => 0) 0 (0 : Int32)) 1 (0 : Int32)) 2 (0 : Int32)) 3 (0 : Int32))) := by rw [e23]; exact (xu_ne (by omega)).trans h_r1
  have h_r2 : v23 (q + 20) = .inl (cy 0, 4, .inl (upd (upd (upd (upd (fun _ => 0) 0 (0 : Int32)) 1 (0 : Int32)) 2 (0 : Int32)) 3 (0 : Int32))) := by rw [e23]; exact (xu_ne (by omega)).trans h_r2
  have hlb : v23 (q + 21) = .inl (cy 0, 5, .inl (upd (fun _ => 0) 0 (0 : Int32))) := by rw [e23]; exact xu_same _ _ _
  have hlow : ∀ a, a < q → v23 a = w a := fun a ha => by rw [e23]; exact (xu_ne (by omega)).trans (hlow a ha)
  refine lv_dup hx hb dX8_init_98 rfl ?_
  refine lv_iconst (v := 1) hx hb dX8_init_99 (by decide) ?_
  refine lv_iconst (v := 0) hx hb dX8_init_100 (by decide) ?_
  refine x_iast hx hb hK.1.1 hP hS (by omega) (by omega) 0 hlb rfl (cl_of_nI (i := 1) rfl (by omega)) (vp_in_of_nI (i := 1) rfl (by omega) (by omega)) dX8_init_101 (fun H locs hP hS => ?_)
  refine x_gen hP (fun v24 e24 hP => ?_)
  have hF : FM cy v24 (q + 1) 0 300 := by rw [e24]; exact hF.o (by omega)
  have hs8 : v24 q = .inr (8, [.int (0 : Int32), .ref (q + 1), .ref (q + 17), .null, .int (0 : Int32), .int (0 : Int32), .int (0 : Int32), .int (0 : Int32)]) := by rw [e24]; exact (xu_ne (by omega)).trans hs8
  have hpo : v24 (q + 17) = .inl (cy 6, 3, .inr (.inr (.inr (.inr (va_up (va_up (va_up (fun _ => none) 0 (some (q + 18))) 1 (some (q + 19))) 2 (some (q + 20))))))) := by rw [e24]; exact (xu_ne (by omega)).trans hpo
  have h_r0 : v24 (q + 18) = .inl (cy 0, 4, .inl (upd (upd (upd (upd (fun _ => 0) 0 (100 : Int32)) 1 (0 : Int32)) 2 (0 : Int32)) 3 (0 : Int32))) := by rw [e24]; exact (xu_ne (by omega)).trans h_r0
  have h_r1 : v24 (q + 19) = .inl (cy 0, 4, .inl (upd (upd (upd (upd (fun _ => 0) 0 (0 : Int32)) 1 (0 : Int32)) 2 (0 : Int32)) 3 (0 : Int32))) := by rw [e24]; exact (xu_ne (by omega)).trans h_r1
  have h_r2 : v24 (q + 20) = .inl (cy 0, 4, .inl (upd (upd (upd (upd (fun _ => 0) 0 (0 : Int32)) 1 (0 : Int32)) 2 (0 : Int32)) 3 (0 : Int32))) := by rw [e24]; exact (xu_ne (by omega)).trans h_r2
  have hlb : v24 (q + 21) = .inl (cy 0, 5, .inl (upd (upd (fun _ => 0) 0 (0 : Int32)) 1 (0 : Int32))) := by rw [e24]; exact xu_same _ _ _
  have hlow : ∀ a, a < q → v24 a = w a := fun a ha => by rw [e24]; exact (xu_ne (by omega)).trans (hlow a ha)
  refine lv_dup hx hb dX8_init_102 rfl ?_
  refine lv_iconst (v := 2) hx hb dX8_init_103 (by decide) ?_
  refine lv_iconst (v := 0) hx hb dX8_init_104 (by decide) ?_
  refine x_iast hx hb hK.1.1 hP hS (by omega) (by omega) 0 hlb rfl (cl_of_nI (i := 2) rfl (by omega)) (vp_in_of_nI (i := 2) rfl (by omega) (by omega)) dX8_init_105 (fun H locs hP hS => ?_)
  refine x_gen hP (fun v25 e25 hP => ?_)
  have hF : FM cy v25 (q + 1) 0 300 := by rw [e25]; exact hF.o (by omega)
  have hs8 : v25 q = .inr (8, [.int (0 : Int32), .ref (q + 1), .ref (q + 17), .null, .int (0 : Int32), .int (0 : Int32), .int (0 : Int32), .int (0 : Int32)]) := by rw [e25]; exact (xu_ne (by omega)).trans hs8
  have hpo : v25 (q + 17) = .inl (cy 6, 3, .inr (.inr (.inr (.inr (va_up (va_up (va_up (fun _ => none) 0 (some (q + 18))) 1 (some (q + 19))) 2 (some (q + 20))))))) := by rw [e25]; exact (xu_ne (by omega)).trans hpo
  have h_r0 : v25 (q + 18) = .inl (cy 0, 4, .inl (upd (upd (upd (upd (fun _ => 0) 0 (100 : Int32)) 1 (0 : Int32)) 2 (0 : Int32)) 3 (0 : Int32))) := by rw [e25]; exact (xu_ne (by omega)).trans h_r0
  have h_r1 : v25 (q + 19) = .inl (cy 0, 4, .inl (upd (upd (upd (upd (fun _ => 0) 0 (0 : Int32)) 1 (0 : Int32)) 2 (0 : Int32)) 3 (0 : Int32))) := by rw [e25]; exact (xu_ne (by omega)).trans h_r1
  have h_r2 : v25 (q + 20) = .inl (cy 0, 4, .inl (upd (upd (upd (upd (fun _ => 0) 0 (0 : Int32)) 1 (0 : Int32)) 2 (0 : Int32)) 3 (0 : Int32))) := by rw [e25]; exact (xu_ne (by omega)).trans h_r2
  have hlb : v25 (q + 21) = .inl (cy 0, 5, .inl (upd (upd (upd (fun _ => 0) 0 (0 : Int32)) 1 (0 : Int32)) 2 (0 : Int32))) := by rw [e25]; exact xu_same _ _ _
  have hlow : ∀ a, a < q → v25 a = w a := fun a ha => by rw [e25]; exact (xu_ne (by omega)).trans (hlow a ha)
  refine lv_dup hx hb dX8_init_106 rfl ?_
  refine lv_iconst (v := 3) hx hb dX8_init_107 (by decide) ?_
  refine lv_iconst (v := 0) hx hb dX8_init_108 (by decide) ?_
  refine x_iast hx hb hK.1.1 hP hS (by omega) (by omega) 0 hlb rfl (cl_of_nI (i := 3) rfl (by omega)) (vp_in_of_nI (i := 3) rfl (by omega) (by omega)) dX8_init_109 (fun H locs hP hS => ?_)
  refine x_gen hP (fun v26 e26 hP => ?_)
  have hF : FM cy v26 (q + 1) 0 300 := by rw [e26]; exact hF.o (by omega)
  have hs8 : v26 q = .inr (8, [.int (0 : Int32), .ref (q + 1), .ref (q + 17), .null, .int (0 : Int32), .int (0 : Int32), .int (0 : Int32), .int (0 : Int32)]) := by rw [e26]; exact (xu_ne (by omega)).trans hs8
  have hpo : v26 (q + 17) = .inl (cy 6, 3, .inr (.inr (.inr (.inr (va_up (va_up (va_up (fun _ => none) 0 (some (q + 18))) 1 (some (q + 19))) 2 (some (q + 20))))))) := by rw [e26]; exact (xu_ne (by omega)).trans hpo
  have h_r0 : v26 (q + 18) = .inl (cy 0, 4, .inl (upd (upd (upd (upd (fun _ => 0) 0 (100 : Int32)) 1 (0 : Int32)) 2 (0 : Int32)) 3 (0 : Int32))) := by rw [e26]; exact (xu_ne (by omega)).trans h_r0
  have h_r1 : v26 (q + 19) = .inl (cy 0, 4, .inl (upd (upd (upd (upd (fun _ => 0) 0 (0 : Int32)) 1 (0 : Int32)) 2 (0 : Int32)) 3 (0 : Int32))) := by rw [e26]; exact (xu_ne (by omega)).trans h_r1
  have h_r2 : v26 (q + 20) = .inl (cy 0, 4, .inl (upd (upd (upd (upd (fun _ => 0) 0 (0 : Int32)) 1 (0 : Int32)) 2 (0 : Int32)) 3 (0 : Int32))) := by rw [e26]; exact (xu_ne (by omega)).trans h_r2
  have hlb : v26 (q + 21) = .inl (cy 0, 5, .inl (upd (upd (upd (upd (fun _ => 0) 0 (0 : Int32)) 1 (0 : Int32)) 2 (0 : Int32)) 3 (0 : Int32))) := by rw [e26]; exact xu_same _ _ _
  have hlow : ∀ a, a < q → v26 a = w a := fun a ha => by rw [e26]; exact (xu_ne (by omega)).trans (hlow a ha)
  refine lv_dup hx hb dX8_init_110 rfl ?_
  refine lv_iconst (v := 4) hx hb dX8_init_111 (by decide) ?_
  refine lv_iconst (v := -1) hx hb dX8_init_112 (by decide) ?_
  refine x_iast hx hb hK.1.1 hP hS (by omega) (by omega) 0 hlb rfl (cl_of_nI (i := 4) rfl (by omega)) (vp_in_of_nI (i := 4) rfl (by omega) (by omega)) dX8_init_113 (fun H locs hP hS => ?_)
  refine x_gen hP (fun v27 e27 hP => ?_)
  have hF : FM cy v27 (q + 1) 0 300 := by rw [e27]; exact hF.o (by omega)
  have hs8 : v27 q = .inr (8, [.int (0 : Int32), .ref (q + 1), .ref (q + 17), .null, .int (0 : Int32), .int (0 : Int32), .int (0 : Int32), .int (0 : Int32)]) := by rw [e27]; exact (xu_ne (by omega)).trans hs8
  have hpo : v27 (q + 17) = .inl (cy 6, 3, .inr (.inr (.inr (.inr (va_up (va_up (va_up (fun _ => none) 0 (some (q + 18))) 1 (some (q + 19))) 2 (some (q + 20))))))) := by rw [e27]; exact (xu_ne (by omega)).trans hpo
  have h_r0 : v27 (q + 18) = .inl (cy 0, 4, .inl (upd (upd (upd (upd (fun _ => 0) 0 (100 : Int32)) 1 (0 : Int32)) 2 (0 : Int32)) 3 (0 : Int32))) := by rw [e27]; exact (xu_ne (by omega)).trans h_r0
  have h_r1 : v27 (q + 19) = .inl (cy 0, 4, .inl (upd (upd (upd (upd (fun _ => 0) 0 (0 : Int32)) 1 (0 : Int32)) 2 (0 : Int32)) 3 (0 : Int32))) := by rw [e27]; exact (xu_ne (by omega)).trans h_r1
  have h_r2 : v27 (q + 20) = .inl (cy 0, 4, .inl (upd (upd (upd (upd (fun _ => 0) 0 (0 : Int32)) 1 (0 : Int32)) 2 (0 : Int32)) 3 (0 : Int32))) := by rw [e27]; exact (xu_ne (by omega)).trans h_r2
  have hlb : v27 (q + 21) = .inl (cy 0, 5, .inl (upd (upd (upd (upd (upd (fun _ => 0) 0 (0 : Int32)) 1 (0 : Int32)) 2 (0 : Int32)) 3 (0 : Int32)) 4 (-1 : Int32))) := by rw [e27]; exact xu_same _ _ _
  have hlow : ∀ a, a < q → v27 a = w a := fun a ha => by rw [e27]; exact (xu_ne (by omega)).trans (hlow a ha)
  refine x_putF (ty := tyX8 3) (ref := RX8) (C := RX8) (T := TX8) (N := 8) (ci := 8) (v := .ref (q + 21)) hx hb hts iX8 tyX8 tyX8_ok nmX8 hown hK.1.1 hP hS (by omega) (by omega) hs8 rfl 3 (by decide) (hts (.fieldLink RX8 22 "PoreFieldModel" "lastBook" "[I") (by decide +kernel)) (fun _ h9 => h9) rfl hin2 rfl (by decide +kernel) rfl rfl (Nat.le_of_ble_eq_true rfl) dX8_init_114 (fun H locs hP hS => ?_)
  refine x_gen hP (fun v28 e28 hP => ?_)
  have hF : FM cy v28 (q + 1) 0 300 := by rw [e28]; exact hF.o (by omega)
  have hs8 : v28 q = .inr (8, [.int (0 : Int32), .ref (q + 1), .ref (q + 17), .ref (q + 21), .int (0 : Int32), .int (0 : Int32), .int (0 : Int32), .int (0 : Int32)]) := by rw [e28]; exact xu_same _ _ _
  have hpo : v28 (q + 17) = .inl (cy 6, 3, .inr (.inr (.inr (.inr (va_up (va_up (va_up (fun _ => none) 0 (some (q + 18))) 1 (some (q + 19))) 2 (some (q + 20))))))) := by rw [e28]; exact (xu_ne (by omega)).trans hpo
  have h_r0 : v28 (q + 18) = .inl (cy 0, 4, .inl (upd (upd (upd (upd (fun _ => 0) 0 (100 : Int32)) 1 (0 : Int32)) 2 (0 : Int32)) 3 (0 : Int32))) := by rw [e28]; exact (xu_ne (by omega)).trans h_r0
  have h_r1 : v28 (q + 19) = .inl (cy 0, 4, .inl (upd (upd (upd (upd (fun _ => 0) 0 (0 : Int32)) 1 (0 : Int32)) 2 (0 : Int32)) 3 (0 : Int32))) := by rw [e28]; exact (xu_ne (by omega)).trans h_r1
  have h_r2 : v28 (q + 20) = .inl (cy 0, 4, .inl (upd (upd (upd (upd (fun _ => 0) 0 (0 : Int32)) 1 (0 : Int32)) 2 (0 : Int32)) 3 (0 : Int32))) := by rw [e28]; exact (xu_ne (by omega)).trans h_r2
  have hlb : v28 (q + 21) = .inl (cy 0, 5, .inl (upd (upd (upd (upd (upd (fun _ => 0) 0 (0 : Int32)) 1 (0 : Int32)) 2 (0 : Int32)) 3 (0 : Int32)) 4 (-1 : Int32))) := by rw [e28]; exact (xu_ne (by omega)).trans hlb
  have hlow : ∀ a, a < q → v28 a = w a := fun a ha => by rw [e28]; exact (xu_ne (by omega)).trans (hlow a ha)
  refine lv_aload_n hx hb dX8_init_117 rfl (lv_at hl 0 rfl) ?_
  refine lv_iconst (v := 5) hx hb dX8_init_118 (by decide) ?_
  refine x_put (ty := tyX8 4) (ref := RX8) (C := RX8) (T := TX8) (N := 8) (ci := 8) (v := .int (5 : Int32)) hx hb hts iX8 tyX8 tyX8_ok nmX8 hown hK.1.1 hP hS (by omega) (by omega) hs8 rfl 4 (by decide) (hts (.fieldLink RX8 25 "PoreFieldModel" "price" "I") (by decide +kernel)) (fun _ h9 => h9) rfl (by decide +kernel) rfl rfl (Nat.le_of_ble_eq_true rfl) dX8_init_119 (fun H locs hP hS => ?_)
  refine x_gen hP (fun v29 e29 hP => ?_)
  have hF : FM cy v29 (q + 1) 0 300 := by rw [e29]; exact hF.o (by omega)
  have hs8 : v29 q = .inr (8, [.int (0 : Int32), .ref (q + 1), .ref (q + 17), .ref (q + 21), .int (5 : Int32), .int (0 : Int32), .int (0 : Int32), .int (0 : Int32)]) := by rw [e29]; exact xu_same _ _ _
  have hpo : v29 (q + 17) = .inl (cy 6, 3, .inr (.inr (.inr (.inr (va_up (va_up (va_up (fun _ => none) 0 (some (q + 18))) 1 (some (q + 19))) 2 (some (q + 20))))))) := by rw [e29]; exact (xu_ne (by omega)).trans hpo
  have h_r0 : v29 (q + 18) = .inl (cy 0, 4, .inl (upd (upd (upd (upd (fun _ => 0) 0 (100 : Int32)) 1 (0 : Int32)) 2 (0 : Int32)) 3 (0 : Int32))) := by rw [e29]; exact (xu_ne (by omega)).trans h_r0
  have h_r1 : v29 (q + 19) = .inl (cy 0, 4, .inl (upd (upd (upd (upd (fun _ => 0) 0 (0 : Int32)) 1 (0 : Int32)) 2 (0 : Int32)) 3 (0 : Int32))) := by rw [e29]; exact (xu_ne (by omega)).trans h_r1
  have h_r2 : v29 (q + 20) = .inl (cy 0, 4, .inl (upd (upd (upd (upd (fun _ => 0) 0 (0 : Int32)) 1 (0 : Int32)) 2 (0 : Int32)) 3 (0 : Int32))) := by rw [e29]; exact (xu_ne (by omega)).trans h_r2
  have hlb : v29 (q + 21) = .inl (cy 0, 5, .inl (upd (upd (upd (upd (upd (fun _ => 0) 0 (0 : Int32)) 1 (0 : Int32)) 2 (0 : Int32)) 3 (0 : Int32)) 4 (-1 : Int32))) := by rw [e29]; exact (xu_ne (by omega)).trans hlb
  have hlow : ∀ a, a < q → v29 a = w a := fun a ha => by rw [e29]; exact (xu_ne (by omega)).trans (hlow a ha)
  have hM : MM cy v29 q 0 5 0 0 0 := by
    refine ⟨hs8, ⟨_, hpo, fun i hi => ?_⟩, fun i hi => ?_⟩
    · rcases (by omega : i = 0 ∨ i = 1 ∨ i = 2) with rfl | rfl | rfl <;> rfl
    · rcases (by omega : i = 0 ∨ i = 1 ∨ i = 2) with rfl | rfl | rfl
      · exact ⟨_, h_r0, rfl, fun j g1 g2 => by rcases (by omega : j = 1 ∨ j = 2 ∨ j = 3) with rfl | rfl | rfl <;> rfl⟩
      · exact ⟨_, h_r1, rfl, fun j g1 g2 => by rcases (by omega : j = 1 ∨ j = 2 ∨ j = 3) with rfl | rfl | rfl <;> rfl⟩
      · exact ⟨_, h_r2, rfl, fun j g1 g2 => by rcases (by omega : j = 1 ∨ j = 2 ∨ j = 3) with rfl | rfl | rfl <;> rfl⟩
  have hB : LB cy v29 q := ⟨_, hlb, rfl, rfl, rfl, rfl, rfl⟩
  refine x_szn (by omega) (by omega) hP (fun hzH => ?_)
  exact W.vret hx hb hr (fun tE ht hW => ⟨⟨v29, rfl, ⟨hM, hB, hF, hlow⟩, x_at ht hP, by rw [ht]; exact hzH⟩, hS.F ht⟩) hS.2.2 dX8_init_122
