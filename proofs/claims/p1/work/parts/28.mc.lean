/-! the reckoner: what makes copies -/
set_option maxRecDepth 100000 in
set_option maxHeartbeats 1000000 in
/-- copy -/
theorem c_X7_copy (l : Launch) (D : va_G) (cy : Nat → ClassId) (lo n : Nat) (w : Nat → va_E) (f : Nat) (h1 : lo ≤ f) (h2 : f + 16 ≤ lo + n) (nw tk : Int32) (hF : FM cy w f nw tk) (g : Nat) (hg : g = lo + n) : Met l yX7_copy wsX7_copy ({ frames := 2, cells := 16, slots := 215, locals := 80 }) (PcN D cy lo n w [.ref f]) (va_Qr (fun (u : Nat → va_E) => FM cy u f nw tk ∧ FM cy u g nw tk ∧ ∀ a, a < g → u a = w a) (fun u ra tE => ra = g ∧ va_P D vwCl (rl lo (n + 1 + 15) u) tE.heap ∧ tE.heap.size = lo + (n + 1 + 15)) (fun q : Nat => lo ≤ q)) 16 215 (fun q : Nat => lo ≤ q) := by
  refine Met.ofW (cc := cX7_copy) (maxL := 3) (ret := (some (.object "PoreFieldModel$Field"))) (by decide) rfl ?_
  intro p e s m args below meth c s₁ B hml hv
  obtain ⟨rfl, hsz, hP, hK, hS⟩ := n_entry hv
  have hx := B.exec
  have hb := B.bytes
  have hr := B.returns
  have hts := atoms_spec (ws := wsX7_copy) B.pre
  have hown : s.vm.findClass RX7 = some m.cls := findClass_of_methodNamed B.named
  have hlocks := B.notSynchronized
  have iX7 : ∀ w ∈ u_ws RX7 TX7 14, w ∈ wsX7_copy := by decide +kernel
  have hl := lv_entry ([.ref f]) (n := 3) (Nat.le_of_ble_eq_true rfl)
  rw [lg_entry_eq]
  generalize (lg_sl ([.ref f]) ++ List.replicate (3 - (lg_sl ([.ref f])).length) Slot.unset).toArray = ls at hl ⊢
  have hl : lv_has ls 3 [(0, .ref f)] := hl
  have hlow : ∀ a, a < g → w a = w a := fun _ _ => rfl
  refine n_new (C := RX7) (T := TX7) (N := 14) (ci := 7) (fs := [.null, .null, .null, .null, .null, .null, .null, .null, .null, .int 0, .int 0, .int 0, .int 0, .int 0]) (q0 := g) hx hb hts iX7 tyX7 tyX7_ok hown (hts (.classLink RX7 10 RX7) (by decide +kernel)) (hts (.instantiable RX7 14) (by decide +kernel)) (hts (.initialized RX7) (by decide +kernel)) hK.1.1 hP hS (by omega) (by omega) (by omega) rfl (fun j hj => by rcases (by omega : j = 0 ∨ j = 1 ∨ j = 2 ∨ j = 3 ∨ j = 4 ∨ j = 5 ∨ j = 6 ∨ j = 7 ∨ j = 8 ∨ j = 9 ∨ j = 10 ∨ j = 11 ∨ j = 12 ∨ j = 13) with rfl | rfl | rfl | rfl | rfl | rfl | rfl | rfl | rfl | rfl | rfl | rfl | rfl | rfl <;> rfl) (by show _ ≤ 16; omega) (by show _ ≤ 215; omega) dX7_copy_0 (fun H hP hS => ?_)
  refine lv_dup hx hb dX7_copy_3 rfl ?_
  refine x_szn (by omega) (by omega) hP (fun hzH => ?_)
  refine x_callN (va_runI (As := []) (rest := [.ref g]) ⟨hx, hb, hml, hown, hts⟩ (c_X7_init l D cy lo (n + 1) w g (by omega) (by omega)) (cwI 0 hts ggX7_copy_X7_init rfl rfl rfl (hts (.initialized RX7) (by decide +kernel)) (hts (.methodLink RX7 49 yX7_init) (by decide +kernel)) (hts (.instanceMethod yX7_init) (by decide +kernel)) rfl (by decide +kernel) ⟨Nat.le_of_ble_eq_true rfl, Nat.le_of_ble_eq_true rfl⟩) (preSN hzH hP hK) rfl rfl hl.1 rfl (lv_room (Nat.le_of_ble_eq_true rfl)) dX7_copy_4 ⟨by show _ ≤ 16; omega, by show _ ≤ 215; omega⟩) hS (fun u0 H locs hX hP hzH hS => ?_)
  obtain ⟨hG, hlow⟩ := hX
  have hF := hF.ext (w' := u0) (fun a g1 g2 => hlow a (by omega))
  refine lv_astore_n (lv' := [(1, .ref g), (0, .ref f)]) hx hb dX7_copy_7 rfl hl (by decide) rfl (fun ls hl => ?_)
  refine lv_aload_n hx hb dX7_copy_8 rfl (lv_at hl 1 rfl) ?_
  refine x_get (ref := RX7) (C := RX7) (T := TX7) (N := 14) (ci := 7) (v := .ref (f + 1)) hx hb hts iX7 hown hK.1.1 hP (by omega) (by omega) hF.self rfl 0 (by decide) (hts (.fieldLink RX7 9 "PoreFieldModel$Field" "room" "[I") (by decide +kernel)) (fun _ h9 => h9) rfl dX7_copy_9 ?_
  refine lv_iconst (v := 0) hx hb dX7_copy_12 (by decide) ?_
  refine lv_aload_n hx hb dX7_copy_13 rfl (lv_at hl 0 rfl) ?_
  refine x_get (ref := RX7) (C := RX7) (T := TX7) (N := 14) (ci := 7) (v := .ref (g + 1)) hx hb hts iX7 hown hK.1.1 hP (by omega) (by omega) hG.self rfl 0 (by decide) (hts (.fieldLink RX7 9 "PoreFieldModel$Field" "room" "[I") (by decide +kernel)) (fun _ h9 => h9) rfl dX7_copy_14 ?_
  refine lv_iconst (v := 0) hx hb dX7_copy_17 (by decide) ?_
  refine lv_bipush (v := 16) hx hb dX7_copy_18 (by decide) ?_
  obtain ⟨d1, g1, q1⟩ := hF.room
  obtain ⟨d2, g2, q2⟩ := hG.room
  refine x_copyi (own := RX7) (k' := 16) hx hb (hml.trans hl.1.symm) hown (hts (.methodLink RX7 50 arraycopyName) (by decide +kernel)) (hts (.native arraycopyName) (by decide +kernel)) (hts (.static arraycopyName) (by decide +kernel)) (hts (.initialized "java/lang/System") (by decide +kernel)) hK.1.1 hP hS 0 (by omega) (by omega) (by omega) (by omega) g1 g2 rfl (by decide) (by decide) (by omega) (by omega) (Nat.le_of_ble_eq_true rfl) (Nat.le_of_ble_eq_true rfl) dX7_copy_20 (fun H locs hP hS => ?_)
  refine x_gen hP (fun v1 e1 hP => ?_)
  have hF : FM cy v1 f nw tk := by rw [e1]; exact hF.o (by omega)
  have hG : FM cy v1 g 0 300 := by rw [e1]; exact hG.up_room (cpy_uni (by omega) q1)
  have hlow : ∀ a, a < g → v1 a = w a := fun a ha => by rw [e1]; exact (xu_ne (by omega)).trans (hlow a ha)
  refine lv_aload_n hx hb dX7_copy_23 rfl (lv_at hl 1 rfl) ?_
  refine x_get (ref := RX7) (C := RX7) (T := TX7) (N := 14) (ci := 7) (v := .ref (f + 2)) hx hb hts iX7 hown hK.1.1 hP (by omega) (by omega) hF.self rfl 1 (by decide) (hts (.fieldLink RX7 15 "PoreFieldModel$Field" "has" "[I") (by decide +kernel)) (fun _ h9 => h9) rfl dX7_copy_24 ?_
  refine lv_iconst (v := 0) hx hb dX7_copy_27 (by decide) ?_
  refine lv_aload_n hx hb dX7_copy_28 rfl (lv_at hl 0 rfl) ?_
  refine x_get (ref := RX7) (C := RX7) (T := TX7) (N := 14) (ci := 7) (v := .ref (g + 2)) hx hb hts iX7 hown hK.1.1 hP (by omega) (by omega) hG.self rfl 1 (by decide) (hts (.fieldLink RX7 15 "PoreFieldModel$Field" "has" "[I") (by decide +kernel)) (fun _ h9 => h9) rfl dX7_copy_29 ?_
  refine lv_iconst (v := 0) hx hb dX7_copy_32 (by decide) ?_
  refine lv_bipush (v := 48) hx hb dX7_copy_33 (by decide) ?_
  obtain ⟨d3, g3, q3⟩ := hF.has
  obtain ⟨d4, g4, q4⟩ := hG.has
  refine x_copyi (own := RX7) (k' := 48) hx hb (hml.trans hl.1.symm) hown (hts (.methodLink RX7 50 arraycopyName) (by decide +kernel)) (hts (.native arraycopyName) (by decide +kernel)) (hts (.static arraycopyName) (by decide +kernel)) (hts (.initialized "java/lang/System") (by decide +kernel)) hK.1.1 hP hS 0 (by omega) (by omega) (by omega) (by omega) g3 g4 rfl (by decide) (by decide) (by omega) (by omega) (Nat.le_of_ble_eq_true rfl) (Nat.le_of_ble_eq_true rfl) dX7_copy_35 (fun H locs hP hS => ?_)
  refine x_gen hP (fun v2 e2 hP => ?_)
  have hF : FM cy v2 f nw tk := by rw [e2]; exact hF.o (by omega)
  have hG : FM cy v2 g 0 300 := by rw [e2]; exact hG.up_has (cpy_uni (by omega) q3)
  have hlow : ∀ a, a < g → v2 a = w a := fun a ha => by rw [e2]; exact (xu_ne (by omega)).trans (hlow a ha)
  refine lv_aload_n hx hb dX7_copy_38 rfl (lv_at hl 1 rfl) ?_
  refine x_get (ref := RX7) (C := RX7) (T := TX7) (N := 14) (ci := 7) (v := .ref (f + 3)) hx hb hts iX7 hown hK.1.1 hP (by omega) (by omega) hF.self rfl 2 (by decide) (hts (.fieldLink RX7 18 "PoreFieldModel$Field" "east" "[Z") (by decide +kernel)) (fun _ h9 => h9) rfl dX7_copy_39 ?_
  refine lv_iconst (v := 0) hx hb dX7_copy_42 (by decide) ?_
  refine lv_aload_n hx hb dX7_copy_43 rfl (lv_at hl 0 rfl) ?_
  refine x_get (ref := RX7) (C := RX7) (T := TX7) (N := 14) (ci := 7) (v := .ref (g + 3)) hx hb hts iX7 hown hK.1.1 hP (by omega) (by omega) hG.self rfl 2 (by decide) (hts (.fieldLink RX7 18 "PoreFieldModel$Field" "east" "[Z") (by decide +kernel)) (fun _ h9 => h9) rfl dX7_copy_44 ?_
  refine lv_iconst (v := 0) hx hb dX7_copy_47 (by decide) ?_
  refine lv_bipush (v := 16) hx hb dX7_copy_48 (by decide) ?_
  obtain ⟨d5, g5, q5⟩ := hF.east
  obtain ⟨d6, g6, q6⟩ := hG.east
  refine x_copyz (own := RX7) (k' := 16) hx hb (hml.trans hl.1.symm) hown (hts (.methodLink RX7 50 arraycopyName) (by decide +kernel)) (hts (.native arraycopyName) (by decide +kernel)) (hts (.static arraycopyName) (by decide +kernel)) (hts (.initialized "java/lang/System") (by decide +kernel)) hK.1.1 hP hS 5 (by omega) (by omega) (by omega) (by omega) g5 g6 rfl (by decide) (by decide) (by omega) (by omega) (fun j hj => Or.inl (q5 j (by omega))) (Nat.le_of_ble_eq_true rfl) (Nat.le_of_ble_eq_true rfl) dX7_copy_50 (fun H locs hP hS => ?_)
  refine x_gen hP (fun v3 e3 hP => ?_)
  have hF : FM cy v3 f nw tk := by rw [e3]; exact hF.o (by omega)
  have hG : FM cy v3 g 0 300 := by rw [e3]; exact hG.up_east (cpy_uni (by omega) q5)
  have hlow : ∀ a, a < g → v3 a = w a := fun a ha => by rw [e3]; exact (xu_ne (by omega)).trans (hlow a ha)
  refine lv_aload_n hx hb dX7_copy_53 rfl (lv_at hl 1 rfl) ?_
  refine x_get (ref := RX7) (C := RX7) (T := TX7) (N := 14) (ci := 7) (v := .ref (f + 4)) hx hb hts iX7 hown hK.1.1 hP (by omega) (by omega) hF.self rfl 3 (by decide) (hts (.fieldLink RX7 22 "PoreFieldModel$Field" "south" "[Z") (by decide +kernel)) (fun _ h9 => h9) rfl dX7_copy_54 ?_
  refine lv_iconst (v := 0) hx hb dX7_copy_57 (by decide) ?_
  refine lv_aload_n hx hb dX7_copy_58 rfl (lv_at hl 0 rfl) ?_
  refine x_get (ref := RX7) (C := RX7) (T := TX7) (N := 14) (ci := 7) (v := .ref (g + 4)) hx hb hts iX7 hown hK.1.1 hP (by omega) (by omega) hG.self rfl 3 (by decide) (hts (.fieldLink RX7 22 "PoreFieldModel$Field" "south" "[Z") (by decide +kernel)) (fun _ h9 => h9) rfl dX7_copy_59 ?_
  refine lv_iconst (v := 0) hx hb dX7_copy_62 (by decide) ?_
  refine lv_bipush (v := 16) hx hb dX7_copy_63 (by decide) ?_
  obtain ⟨d7, g7, q7⟩ := hF.south
  obtain ⟨d8, g8, q8⟩ := hG.south
  refine x_copyz (own := RX7) (k' := 16) hx hb (hml.trans hl.1.symm) hown (hts (.methodLink RX7 50 arraycopyName) (by decide +kernel)) (hts (.native arraycopyName) (by decide +kernel)) (hts (.static arraycopyName) (by decide +kernel)) (hts (.initialized "java/lang/System") (by decide +kernel)) hK.1.1 hP hS 5 (by omega) (by omega) (by omega) (by omega) g7 g8 rfl (by decide) (by decide) (by omega) (by omega) (fun j hj => Or.inl (q7 j (by omega))) (Nat.le_of_ble_eq_true rfl) (Nat.le_of_ble_eq_true rfl) dX7_copy_65 (fun H locs hP hS => ?_)
  refine x_gen hP (fun v4 e4 hP => ?_)
  have hF : FM cy v4 f nw tk := by rw [e4]; exact hF.o (by omega)
  have hG : FM cy v4 g 0 300 := by rw [e4]; exact hG.up_south (cpy_uni (by omega) q7)
  have hlow : ∀ a, a < g → v4 a = w a := fun a ha => by rw [e4]; exact (xu_ne (by omega)).trans (hlow a ha)
  refine lv_iconst (v := 0) hx hb dX7_copy_68 (by decide) ?_
  refine lv_istore_n (lv' := [(2, .int (0 : Int32)), (1, .ref g), (0, .ref f)]) hx hb dX7_copy_69 rfl hl (by decide) rfl (fun ls hl => ?_)
  refine lv_iload_n hx hb dX7_copy_70 rfl (lv_at hl 0 rfl) ?_
  refine lv_aload_n hx hb dX7_copy_71 rfl (lv_at hl 2 rfl) ?_
  refine x_get (ref := RX7) (C := RX7) (T := TX7) (N := 14) (ci := 7) (v := .int (0 : Int32)) hx hb hts iX7 hown hK.1.1 hP (by omega) (by omega) hF.self rfl 9 (by decide) (hts (.fieldLink RX7 56 "PoreFieldModel$Field" "wellCount" "I") (by decide +kernel)) (fun _ h9 => h9) rfl dX7_copy_72 ?_
  refine lv_icmp_ge (tgt := 103) hx hb dX7_copy_75 (by decide) (fun _ => ?_) (fun h => absurd (by decide) h)
  refine lv_aload_n hx hb dX7_copy_103 rfl (lv_at hl 2 rfl) ?_
  refine x_get (ref := RX7) (C := RX7) (T := TX7) (N := 14) (ci := 7) (v := .ref (f + 12)) hx hb hts iX7 hown hK.1.1 hP (by omega) (by omega) hF.self rfl 5 (by decide) (hts (.fieldLink RX7 30 "PoreFieldModel$Field" "capacity" "[I") (by decide +kernel)) (fun _ h9 => h9) rfl dX7_copy_104 ?_
  refine lv_iconst (v := 0) hx hb dX7_copy_107 (by decide) ?_
  refine lv_aload_n hx hb dX7_copy_108 rfl (lv_at hl 1 rfl) ?_
  refine x_get (ref := RX7) (C := RX7) (T := TX7) (N := 14) (ci := 7) (v := .ref (g + 12)) hx hb hts iX7 hown hK.1.1 hP (by omega) (by omega) hG.self rfl 5 (by decide) (hts (.fieldLink RX7 30 "PoreFieldModel$Field" "capacity" "[I") (by decide +kernel)) (fun _ h9 => h9) rfl dX7_copy_109 ?_
  refine lv_iconst (v := 0) hx hb dX7_copy_112 (by decide) ?_
  refine lv_iconst (v := 3) hx hb dX7_copy_113 (by decide) ?_
  obtain ⟨d9, g9, q9⟩ := hF.capacity
  obtain ⟨d10, g10, q10⟩ := hG.capacity
  refine x_copyi (own := RX7) (k' := 3) hx hb (hml.trans hl.1.symm) hown (hts (.methodLink RX7 50 arraycopyName) (by decide +kernel)) (hts (.native arraycopyName) (by decide +kernel)) (hts (.static arraycopyName) (by decide +kernel)) (hts (.initialized "java/lang/System") (by decide +kernel)) hK.1.1 hP hS 0 (by omega) (by omega) (by omega) (by omega) g9 g10 rfl (by decide) (by decide) (by omega) (by omega) (Nat.le_of_ble_eq_true rfl) (Nat.le_of_ble_eq_true rfl) dX7_copy_114 (fun H locs hP hS => ?_)
  refine x_gen hP (fun v5 e5 hP => ?_)
  have hF : FM cy v5 f nw tk := by rw [e5]; exact hF.o (by omega)
  have hG : FM cy v5 g 0 300 := by rw [e5]; exact hG.up_capacity (cpy_uni (by omega) q9)
  have hlow : ∀ a, a < g → v5 a = w a := fun a ha => by rw [e5]; exact (xu_ne (by omega)).trans (hlow a ha)
  refine lv_aload_n hx hb dX7_copy_117 rfl (lv_at hl 2 rfl) ?_
  refine x_get (ref := RX7) (C := RX7) (T := TX7) (N := 14) (ci := 7) (v := .ref (f + 13)) hx hb hts iX7 hown hK.1.1 hP (by omega) (by omega) hF.self rfl 6 (by decide) (hts (.fieldLink RX7 33 "PoreFieldModel$Field" "sums" "[I") (by decide +kernel)) (fun _ h9 => h9) rfl dX7_copy_118 ?_
  refine lv_iconst (v := 0) hx hb dX7_copy_121 (by decide) ?_
  refine lv_aload_n hx hb dX7_copy_122 rfl (lv_at hl 1 rfl) ?_
  refine x_get (ref := RX7) (C := RX7) (T := TX7) (N := 14) (ci := 7) (v := .ref (g + 13)) hx hb hts iX7 hown hK.1.1 hP (by omega) (by omega) hG.self rfl 6 (by decide) (hts (.fieldLink RX7 33 "PoreFieldModel$Field" "sums" "[I") (by decide +kernel)) (fun _ h9 => h9) rfl dX7_copy_123 ?_
  refine lv_iconst (v := 0) hx hb dX7_copy_126 (by decide) ?_
  refine lv_bipush (v := 6) hx hb dX7_copy_127 (by decide) ?_
  obtain ⟨d11, g11, q11⟩ := hF.sums
  obtain ⟨d12, g12, q12⟩ := hG.sums
  refine x_copyi (own := RX7) (k' := 6) hx hb (hml.trans hl.1.symm) hown (hts (.methodLink RX7 50 arraycopyName) (by decide +kernel)) (hts (.native arraycopyName) (by decide +kernel)) (hts (.static arraycopyName) (by decide +kernel)) (hts (.initialized "java/lang/System") (by decide +kernel)) hK.1.1 hP hS 0 (by omega) (by omega) (by omega) (by omega) g11 g12 rfl (by decide) (by decide) (by omega) (by omega) (Nat.le_of_ble_eq_true rfl) (Nat.le_of_ble_eq_true rfl) dX7_copy_129 (fun H locs hP hS => ?_)
  refine x_gen hP (fun v6 e6 hP => ?_)
  have hF : FM cy v6 f nw tk := by rw [e6]; exact hF.o (by omega)
  have hG : FM cy v6 g 0 300 := by rw [e6]; exact hG.up_sums (cpy_uni (by omega) q11)
  have hlow : ∀ a, a < g → v6 a = w a := fun a ha => by rw [e6]; exact (xu_ne (by omega)).trans (hlow a ha)
  refine lv_aload_n hx hb dX7_copy_132 rfl (lv_at hl 1 rfl) ?_
  refine lv_aload_n hx hb dX7_copy_133 rfl (lv_at hl 2 rfl) ?_
  refine x_get (ref := RX7) (C := RX7) (T := TX7) (N := 14) (ci := 7) (v := .int (0 : Int32)) hx hb hts iX7 hown hK.1.1 hP (by omega) (by omega) hF.self rfl 9 (by decide) (hts (.fieldLink RX7 56 "PoreFieldModel$Field" "wellCount" "I") (by decide +kernel)) (fun _ h9 => h9) rfl dX7_copy_134 ?_
  refine x_put (ty := tyX7 9) (ref := RX7) (C := RX7) (T := TX7) (N := 14) (ci := 7) (v := .int (0 : Int32)) hx hb hts iX7 tyX7 tyX7_ok nmX7 hown hK.1.1 hP hS (by omega) (by omega) hG.self rfl 9 (by decide) (hts (.fieldLink RX7 56 "PoreFieldModel$Field" "wellCount" "I") (by decide +kernel)) (fun _ h9 => h9) rfl (by decide +kernel) rfl rfl (Nat.le_of_ble_eq_true rfl) dX7_copy_137 (fun H locs hP hS => ?_)
  refine x_gen hP (fun v7 e7 hP => ?_)
  have hF : FM cy v7 f nw tk := by rw [e7]; exact hF.o (by omega)
  have hG : FM cy v7 g 0 300 := by rw [e7]; exact hG.up_self (nw' := 0) (tk' := 300)
  have hlow : ∀ a, a < g → v7 a = w a := fun a ha => by rw [e7]; exact (xu_ne (by omega)).trans (hlow a ha)
  refine lv_aload_n hx hb dX7_copy_140 rfl (lv_at hl 1 rfl) ?_
  refine lv_aload_n hx hb dX7_copy_141 rfl (lv_at hl 2 rfl) ?_
  refine x_get (ref := RX7) (C := RX7) (T := TX7) (N := 14) (ci := 7) (v := .int nw) hx hb hts iX7 hown hK.1.1 hP (by omega) (by omega) hF.self rfl 10 (by decide) (hts (.fieldLink RX7 59 "PoreFieldModel$Field" "now" "I") (by decide +kernel)) (fun _ h9 => h9) rfl dX7_copy_142 ?_
  refine x_put (ty := tyX7 10) (ref := RX7) (C := RX7) (T := TX7) (N := 14) (ci := 7) (v := .int nw) hx hb hts iX7 tyX7 tyX7_ok nmX7 hown hK.1.1 hP hS (by omega) (by omega) hG.self rfl 10 (by decide) (hts (.fieldLink RX7 59 "PoreFieldModel$Field" "now" "I") (by decide +kernel)) (fun _ h9 => h9) rfl (by decide +kernel) rfl rfl (Nat.le_of_ble_eq_true rfl) dX7_copy_145 (fun H locs hP hS => ?_)
  refine x_gen hP (fun v8 e8 hP => ?_)
  have hF : FM cy v8 f nw tk := by rw [e8]; exact hF.o (by omega)
  have hG : FM cy v8 g nw 300 := by rw [e8]; exact hG.up_self (nw' := nw) (tk' := 300)
  have hlow : ∀ a, a < g → v8 a = w a := fun a ha => by rw [e8]; exact (xu_ne (by omega)).trans (hlow a ha)
  refine lv_aload_n hx hb dX7_copy_148 rfl (lv_at hl 1 rfl) ?_
  refine lv_aload_n hx hb dX7_copy_149 rfl (lv_at hl 2 rfl) ?_
  refine x_get (ref := RX7) (C := RX7) (T := TX7) (N := 14) (ci := 7) (v := .int (10 : Int32)) hx hb hts iX7 hown hK.1.1 hP (by omega) (by omega) hF.self rfl 11 (by decide) (hts (.fieldLink RX7 42 "PoreFieldModel$Field" "permit" "I") (by decide +kernel)) (fun _ h9 => h9) rfl dX7_copy_150 ?_
  refine x_put (ty := tyX7 11) (ref := RX7) (C := RX7) (T := TX7) (N := 14) (ci := 7) (v := .int (10 : Int32)) hx hb hts iX7 tyX7 tyX7_ok nmX7 hown hK.1.1 hP hS (by omega) (by omega) hG.self rfl 11 (by decide) (hts (.fieldLink RX7 42 "PoreFieldModel$Field" "permit" "I") (by decide +kernel)) (fun _ h9 => h9) rfl (by decide +kernel) rfl rfl (Nat.le_of_ble_eq_true rfl) dX7_copy_153 (fun H locs hP hS => ?_)
  refine x_gen hP (fun v9 e9 hP => ?_)
  have hF : FM cy v9 f nw tk := by rw [e9]; exact hF.o (by omega)
  have hG : FM cy v9 g nw 300 := by rw [e9]; exact hG.up_self (nw' := nw) (tk' := 300)
  have hlow : ∀ a, a < g → v9 a = w a := fun a ha => by rw [e9]; exact (xu_ne (by omega)).trans (hlow a ha)
  refine lv_aload_n hx hb dX7_copy_156 rfl (lv_at hl 1 rfl) ?_
  refine lv_aload_n hx hb dX7_copy_157 rfl (lv_at hl 2 rfl) ?_
  refine x_get (ref := RX7) (C := RX7) (T := TX7) (N := 14) (ci := 7) (v := .int tk) hx hb hts iX7 hown hK.1.1 hP (by omega) (by omega) hF.self rfl 12 (by decide) (hts (.fieldLink RX7 46 "PoreFieldModel$Field" "tank" "I") (by decide +kernel)) (fun _ h9 => h9) rfl dX7_copy_158 ?_
  refine x_put (ty := tyX7 12) (ref := RX7) (C := RX7) (T := TX7) (N := 14) (ci := 7) (v := .int tk) hx hb hts iX7 tyX7 tyX7_ok nmX7 hown hK.1.1 hP hS (by omega) (by omega) hG.self rfl 12 (by decide) (hts (.fieldLink RX7 46 "PoreFieldModel$Field" "tank" "I") (by decide +kernel)) (fun _ h9 => h9) rfl (by decide +kernel) rfl rfl (Nat.le_of_ble_eq_true rfl) dX7_copy_161 (fun H locs hP hS => ?_)
  refine x_gen hP (fun v10 e10 hP => ?_)
  have hF : FM cy v10 f nw tk := by rw [e10]; exact hF.o (by omega)
  have hG : FM cy v10 g nw tk := by rw [e10]; exact hG.up_self (nw' := nw) (tk' := tk)
  have hlow : ∀ a, a < g → v10 a = w a := fun a ha => by rw [e10]; exact (xu_ne (by omega)).trans (hlow a ha)
  refine lv_aload_n hx hb dX7_copy_164 rfl (lv_at hl 1 rfl) ?_
  refine lv_aload_n hx hb dX7_copy_165 rfl (lv_at hl 2 rfl) ?_
  refine x_get (ref := RX7) (C := RX7) (T := TX7) (N := 14) (ci := 7) (v := .int (0 : Int32)) hx hb hts iX7 hown hK.1.1 hP (by omega) (by omega) hF.self rfl 13 (by decide) (hts (.fieldLink RX7 62 "PoreFieldModel$Field" "stored" "I") (by decide +kernel)) (fun _ h9 => h9) rfl dX7_copy_166 ?_
  refine x_put (ty := tyX7 13) (ref := RX7) (C := RX7) (T := TX7) (N := 14) (ci := 7) (v := .int (0 : Int32)) hx hb hts iX7 tyX7 tyX7_ok nmX7 hown hK.1.1 hP hS (by omega) (by omega) hG.self rfl 13 (by decide) (hts (.fieldLink RX7 62 "PoreFieldModel$Field" "stored" "I") (by decide +kernel)) (fun _ h9 => h9) rfl (by decide +kernel) rfl rfl (Nat.le_of_ble_eq_true rfl) dX7_copy_169 (fun H locs hP hS => ?_)
  refine x_gen hP (fun v11 e11 hP => ?_)
  have hF : FM cy v11 f nw tk := by rw [e11]; exact hF.o (by omega)
  have hG : FM cy v11 g nw tk := by rw [e11]; exact hG.up_self (nw' := nw) (tk' := tk)
  have hlow : ∀ a, a < g → v11 a = w a := fun a ha => by rw [e11]; exact (xu_ne (by omega)).trans (hlow a ha)
  refine lv_aload_n hx hb dX7_copy_172 rfl (lv_at hl 1 rfl) ?_
  refine x_szn (by omega) (by omega) hP (fun hzH => ?_)
  exact x_aret hx hb hr (fun tE ht hW => ⟨⟨v11, g, rfl, ⟨hF, hG, hlow⟩, rfl, x_at ht hP, by rw [ht]; exact hzH⟩, hS.F ht⟩) hS.2.2 dX7_copy_173

theorem preVN {s : State} {H : Heap} {D : va_G} {cy : Nat → ClassId} {lo n : Nat} {w : Nat → va_E} {C : String} {b : Nat} {As : List Value} (hz : H.size = lo + n) (hP : va_P D vwCl (rl lo n w) H) (hK : KI D cy s) (hr : ∃ cell : Cell, H[b]? = some cell ∧ cell.vm.isStatics = false ∧ s.vm.findClass C = some cell.cls) : PreV s H C b (PcN D cy lo n w (.ref b :: As)) As :=
  ⟨PcN.blind, hr, fun U hU hW => ⟨rfl, by rw [hU]; exact hz, by rw [hU]; exact hP, hK.warm hW⟩⟩
set_option maxRecDepth 100000 in
set_option maxHeartbeats 1000000 in
/-- reserves -/
theorem c_X8_reserves (l : Launch) (D : va_G) (cy : Nat → ClassId) (lo n : Nat) (w : Nat → va_E) (q : Nat) (h1 : lo ≤ q) (h2 : q + 22 ≤ lo + n) (th : Int32) (hM : MM cy w q th 5 0 0 0) (hB : LB cy w q) (hF : FM cy w (q + 1) 0 300) (g : Nat) (hg : g = lo + n) : Met l yX8_reserves wsX8_reserves ({ frames := 5, cells := 16, slots := 215, locals := 128 }) (PcN D cy lo n w [.ref q, .int (0 : Int32)]) (va_Qi (fun (r : Int32) (u : Nat → va_E) => r = 0 ∧ ∀ a, a < lo + n → u a = w a) (fun u tE => va_P D vwCl (rl lo (n + 1 + 15) u) tE.heap ∧ tE.heap.size = lo + (n + 1 + 15)) (fun q : Nat => lo ≤ q)) 16 215 (fun q : Nat => lo ≤ q) := by
  refine Met.ofW (cc := cX8_reserves) (maxL := 4) (ret := (some .int)) (by decide) rfl ?_
  intro p e s m args below meth c s₁ B hml hv
  obtain ⟨rfl, hsz, hP, hK, hS⟩ := n_entry hv
  have hx := B.exec
  have hb := B.bytes
  have hr := B.returns
  have hts := atoms_spec (ws := wsX8_reserves) B.pre
  have hown : s.vm.findClass RX8 = some m.cls := findClass_of_methodNamed B.named
  have hlocks := B.notSynchronized
  have iX7 : ∀ w ∈ u_ws RX7 TX7 14, w ∈ wsX8_reserves := by decide +kernel
  have iX8 : ∀ w ∈ u_ws RX8 TX8 8, w ∈ wsX8_reserves := by decide +kernel
  have hl := lv_entry ([.ref q, .int (0 : Int32)]) (n := 4) (Nat.le_of_ble_eq_true rfl)
  rw [lg_entry_eq]
  generalize (lg_sl ([.ref q, .int (0 : Int32)]) ++ List.replicate (4 - (lg_sl ([.ref q, .int (0 : Int32)])).length) Slot.unset).toArray = ls at hl ⊢
  have hl : lv_has ls 4 [(0, .ref q), (1, .int (0 : Int32))] := hl
  have hlow : ∀ a, a < (lo + n) → w a = w a := fun _ _ => rfl
  refine lv_aload_n hx hb dX8_reserves_0 rfl (lv_at hl 0 rfl) ?_
  refine x_get (ref := RX8) (C := RX8) (T := TX8) (N := 8) (ci := 8) (v := .ref (q + 1)) hx hb hts iX8 hown hK.1.1 hP (by omega) (by omega) hM.self rfl 1 (by decide) (hts (.fieldLink RX8 10 "PoreFieldModel" "field" "LPoreFieldModel$Field;") (by decide +kernel)) (fun _ h9 => h9) rfl dX8_reserves_1 ?_
  refine x_szn (by omega) (by omega) hP (fun hzH => ?_)
  refine x_callrN (va_runV (As := []) (rest := []) ⟨hx, hb, hml, hown, hts⟩ (c_X7_copy l D cy lo n w (q + 1) (by omega) (by omega) 0 300 hF g (by omega)) (cwV 0 hts gX8_reserves_X7_copy rfl rfl rfl (by decide +kernel) ⟨Nat.le_of_ble_eq_true rfl, Nat.le_of_ble_eq_true rfl⟩) (preVN hzH hP hK (x_recv (ci := 7) (q := (RX7, TX7, 14)) hK.1.1 hP (by omega) (by omega) rfl hF.self)) rfl rfl hl.1 rfl (lv_room (Nat.le_of_ble_eq_true rfl)) dX8_reserves_4 ⟨by show _ ≤ 16; omega, by show _ ≤ 215; omega⟩) hS (fun u1 H locs hX hP hzH hS => ?_)
  obtain ⟨hF, hG, hlo9⟩ := hX
  have hM := hM.ext (w' := u1) (fun a ha => hlo9 a (by omega))
  have hB := hB.ext (w' := u1) (hlo9 _ (by omega))
  have hlow : ∀ a, a < (lo + n) → u1 a = w a := fun a ha => (hlo9 a (by omega)).trans (hlow a ha)
  refine lv_astore_n (lv' := [(2, .ref g), (0, .ref q), (1, .int (0 : Int32))]) hx hb dX8_reserves_7 rfl hl (by decide) rfl (fun ls hl => ?_)
  refine lv_aload_n hx hb dX8_reserves_8 rfl (lv_at hl 0 rfl) ?_
  refine lv_ldc (own := RX8) (v := 1000000) hx hb hown (hts (.constant RX8 105 (1000000)) (by decide +kernel)) dX8_reserves_9 ?_
  refine x_put (ty := tyX7 12) (ref := RX7) (C := RX7) (T := TX7) (N := 14) (ci := 7) (v := .int (1000000 : Int32)) hx hb hts iX7 tyX7 tyX7_ok nmX7 hown hK.1.1 hP hS (by omega) (by omega) hG.self rfl 12 (by decide) (hts (.fieldLink RX8 82 "PoreFieldModel$Field" "tank" "I") (by decide +kernel)) (fun _ h9 => h9) rfl (by decide +kernel) rfl rfl (Nat.le_of_ble_eq_true rfl) dX8_reserves_11 (fun H locs hP hS => ?_)
  refine x_gen hP (fun v2 e2 hP => ?_)
  have hF : FM cy v2 (q + 1) 0 300 := by rw [e2]; exact hF.o (by omega)
  have hG : FM cy v2 g 0 (1000000 : Int32) := by rw [e2]; exact hG.up_self (nw' := 0) (tk' := (1000000 : Int32))
  have hM : MM cy v2 q th 5 0 0 0 := by rw [e2]; exact hM.o (by omega) (by omega) (by omega)
  have hB : LB cy v2 q := by rw [e2]; exact hB.o (by omega)
  have hlow : ∀ a, a < (lo + n) → v2 a = w a := fun a ha => by rw [e2]; exact (xu_ne (by omega)).trans (hlow a ha)
  refine lv_iload_n hx hb dX8_reserves_14 rfl (lv_at hl 2 rfl) ?_
  refine lv_istore_n (lv' := [(3, .int (0 : Int32)), (2, .ref g), (0, .ref q), (1, .int (0 : Int32))]) hx hb dX8_reserves_15 rfl hl (by decide) rfl (fun ls hl => ?_)
  refine lv_iload_n hx hb dX8_reserves_16 rfl (lv_at hl 0 rfl) ?_
  refine lv_aload_n hx hb dX8_reserves_17 rfl (lv_at hl 1 rfl) ?_
  refine x_get (ref := RX7) (C := RX7) (T := TX7) (N := 14) (ci := 7) (v := .int (0 : Int32)) hx hb hts iX7 hown hK.1.1 hP (by omega) (by omega) hG.self rfl 9 (by decide) (hts (.fieldLink RX8 40 "PoreFieldModel$Field" "wellCount" "I") (by decide +kernel)) (fun _ h9 => h9) rfl dX8_reserves_18 ?_
  refine lv_icmp_ge (tgt := 48) hx hb dX8_reserves_21 (by decide) (fun _ => ?_) (fun h => absurd (by decide) h)
  refine lv_aload_n hx hb dX8_reserves_48 rfl (lv_at hl 1 rfl) ?_
  refine lv_bipush (v := 12) hx hb dX8_reserves_49 (by decide) ?_
  refine x_callx (va_runV (As := [.int (12 : Int32)]) (rest := []) ⟨hx, hb, hml, hown, hts⟩ (c_X7_run l D cy lo (n + 1 + 15) v2 g (by omega) (by omega) 0 (1000000 : Int32) hG 12 (by omega)) (cwV 1 hts gX8_reserves_X7_run rfl rfl rfl (by decide +kernel) ⟨Nat.le_of_ble_eq_true rfl, Nat.le_of_ble_eq_true rfl⟩) (preV hP hK.1 (x_recv (ci := 7) (q := (RX7, TX7, 14)) hK.1.1 hP (by omega) (by omega) rfl hG.self)) rfl rfl hl.1 rfl (lv_room (Nat.le_of_ble_eq_true rfl)) dX8_reserves_51 ⟨by show _ ≤ 16; omega, by show _ ≤ 215; omega⟩) hS (fun r9 u3 H locs hX hP hS => ?_)
  obtain ⟨rfl, ⟨nw3, hG⟩, hf9⟩ := hX
  have hF := hF.ext (w' := u3) (fun a g1 g2 => hf9 a (by omega))
  have hM := hM.ext (w' := u3) (fun a ha => hf9 a (by omega))
  have hB := hB.ext (w' := u3) (hf9 _ (by omega))
  have hlow : ∀ a, a < (lo + n) → u3 a = w a := fun a ha => (hf9 a (by omega)).trans (hlow a ha)
  refine x_szn (by omega) (by omega) hP (fun hzH => ?_)
  exact W.iret (v := (0 : Int32)) hx hb hr (fun tE ht hW => ⟨⟨(0 : Int32), u3, rfl, ⟨rfl, hlow⟩, x_at ht hP, by rw [ht]; exact hzH⟩, hS.F ht⟩) hS.2.2 dX8_reserves_54

def r_wouldGive (x : Int32) : Int32 × Int32 := if 1 ≤ x ∧ x ≤ 12 then (0, 0) else (1, 0)
set_option maxRecDepth 100000 in
set_option maxHeartbeats 1000000 in
/-- wouldGive, refused -/
theorem c_X8_wouldGive_bad (l : Launch) (D : va_G) (cy : Nat → ClassId) (lo n : Nat) (w : Nat → va_E) (q : Nat) (h1 : lo ≤ q) (h2 : q + 22 ≤ lo + n) (th : Int32) (hM : MM cy w q th 5 0 0 0) (hB : LB cy w q) (hF : FM cy w (q + 1) 0 300) (x : Int32) (hgood : ¬ (1 ≤ x ∧ x ≤ 12)) : Met l yX8_wouldGive wsX8_wouldGive ({ frames := 1, cells := 0, slots := 0, locals := 22 }) (PcW D cy lo n w [.ref q, .int x]) (QR D lo n q w (r_wouldGive x)) 0 0 (fun q : Nat => lo ≤ q) := by
  refine Met.ofW (cc := cX8_wouldGive) (maxL := 2) (ret := (some .int)) (by decide) rfl ?_
  intro p e s m args below meth c s₁ B hml hv
  obtain ⟨rfl, hP, hK, hS⟩ := x_entry hv
  have hx := B.exec
  have hb := B.bytes
  have hr := B.returns
  have hts := atoms_spec (ws := wsX8_wouldGive) B.pre
  have hown : s.vm.findClass RX8 = some m.cls := findClass_of_methodNamed B.named
  have hlocks := B.notSynchronized
  have iX8 : ∀ w ∈ u_ws RX8 TX8 8, w ∈ wsX8_wouldGive := by decide +kernel
  have hl := lv_entry ([.ref q, .int x]) (n := 2) (Nat.le_of_ble_eq_true rfl)
  rw [lg_entry_eq]
  generalize (lg_sl ([.ref q, .int x]) ++ List.replicate (2 - (lg_sl ([.ref q, .int x])).length) Slot.unset).toArray = ls at hl ⊢
  have hl : lv_has ls 2 [(0, .ref q), (1, .int x)] := hl
  have hfr : fr q 22 w w := fr.rf
  refine lv_aload_n hx hb dX8_wouldGive_0 rfl (lv_at hl 0 rfl) ?_
  refine lv_iconst (v := 0) hx hb dX8_wouldGive_1 (by decide) ?_
  refine x_put (ty := tyX8 0) (ref := RX8) (C := RX8) (T := TX8) (N := 8) (ci := 8) (v := .int (0 : Int32)) hx hb hts iX8 tyX8 tyX8_ok nmX8 hown hK.1 hP hS (by omega) (by omega) hM.self rfl 0 (by decide) (hts (.fieldLink RX8 29 "PoreFieldModel" "thrown" "I") (by decide +kernel)) (fun _ h9 => h9) rfl (by decide +kernel) rfl rfl (Nat.le_of_ble_eq_true rfl) dX8_wouldGive_2 (fun H locs hP hS => ?_)
  refine x_gen hP (fun v1 e1 hP => ?_)
  have hF : FM cy v1 (q + 1) 0 300 := by rw [e1]; exact hF.o (by omega)
  have hM : MM cy v1 q 0 5 0 0 0 := by rw [e1]; exact hM.up_self (th' := 0) (pr' := 5) (bk' := 0) (bo' := 0) (bw' := 0)
  have hB : LB cy v1 q := by rw [e1]; exact hB.o (by omega)
  have hfr : fr q 22 w v1 := by rw [e1]; exact hfr.up (by omega) (by omega)
  refine lv_iload_n hx hb dX8_wouldGive_5 rfl (lv_at hl 1 rfl) ?_
  refine lv_iconst (v := 1) hx hb dX8_wouldGive_6 (by decide) ?_
  refine lv_bipush (v := 12) hx hb dX8_wouldGive_7 (by decide) ?_
  refine x_calli (va_runS (As := [.int x, .int (1 : Int32), .int (12 : Int32)]) (rest := []) ⟨hx, hb, hml, hown, hts⟩ (c_X8_in l D cy lo n v1 x (1 : Int32) (12 : Int32)) (va_cwS 3 hts gX8_wouldGive_X8_in rfl rfl rfl (by decide +kernel) ⟨Nat.le_of_ble_eq_true rfl, Nat.le_of_ble_eq_true rfl⟩) (preS hP hK) rfl rfl hl.1 rfl (lv_room (Nat.le_of_ble_eq_true rfl)) dX8_wouldGive_9 ⟨Nat.le_of_ble_eq_true rfl, Nat.le_of_ble_eq_true rfl⟩) hS (fun H locs hP hS => ?_)
  refine x_top (v' := (0 : Int32)) (if_neg hgood) ?_
  refine lv_if_ne (tgt := 21) hx hb dX8_wouldGive_12 (by decide) (fun h => absurd (by decide) h) (fun _ => ?_)
  refine lv_aload_n hx hb dX8_wouldGive_15 rfl (lv_at hl 0 rfl) ?_
  refine lv_iconst (v := 1) hx hb dX8_wouldGive_16 (by decide) ?_
  refine x_callx (va_runV (As := [.int (1 : Int32)]) (rest := []) ⟨hx, hb, hml, hown, hts⟩ (c_X8_no l D cy lo n v1 q (by omega) (by omega) 0 hM hB hF (1 : Int32)) (cwV 1 hts gX8_wouldGive_X8_no rfl rfl rfl (by decide +kernel) ⟨Nat.le_of_ble_eq_true rfl, Nat.le_of_ble_eq_true rfl⟩) (preV hP hK (x_recv (ci := 8) (q := (RX8, TX8, 8)) hK.1 hP (by omega) (by omega) rfl hM.self)) rfl rfl hl.1 rfl (lv_room (Nat.le_of_ble_eq_true rfl)) dX8_wouldGive_17 ⟨Nat.le_of_ble_eq_true rfl, Nat.le_of_ble_eq_true rfl⟩) hS (fun r9 u2 H locs hX hP hS => ?_)
  obtain ⟨rfl, hM, hB, hF, hf9⟩ := hX
  have hfr := hfr.tr hf9 (by omega) (by omega)
  have eS : r_wouldGive x = (1, (0 : Int32)) := by unfold r_wouldGive; rw [if_neg hgood] <;> first | rfl | decide
  exact W.iret (v := (0 : Int32)) hx hb hr (fun tE ht hW => ⟨⟨(0 : Int32), u2, rfl, by rw [eS]; exact ⟨⟨_, hM.self⟩, fun _ => rfl, hfr⟩, x_at ht hP⟩, hS.F ht⟩) hS.2.2 dX8_wouldGive_20

set_option maxRecDepth 100000 in
set_option maxHeartbeats 1000000 in
/-- wouldGive -/
theorem c_X8_wouldGive_ok (l : Launch) (D : va_G) (cy : Nat → ClassId) (lo n : Nat) (w : Nat → va_E) (q : Nat) (h1 : lo ≤ q) (h2 : q + 22 ≤ lo + n) (th : Int32) (hM : MM cy w q th 5 0 0 0) (hB : LB cy w q) (hF : FM cy w (q + 1) 0 300) (x : Int32) (hgood : 1 ≤ x ∧ x ≤ 12) : Met l yX8_wouldGive wsX8_wouldGive ({ frames := 5, cells := 16, slots := 215, locals := 128 }) (PcN D cy lo n w [.ref q, .int x]) (va_Qi (fun (r : Int32) (u : Nat → va_E) => (∃ fs, u q = .inr (8, .int (r_wouldGive x).1 :: fs)) ∧ ((r_wouldGive x).1 = 0 → r = (r_wouldGive x).2) ∧ ∀ a, a < lo + n → (a < q ∨ q + 22 ≤ a) → u a = w a) (fun u tE => va_P D vwCl (rl lo (n + 1 + 15) u) tE.heap ∧ tE.heap.size = lo + (n + 1 + 15)) (fun q : Nat => lo ≤ q)) 16 215 (fun q : Nat => lo ≤ q) := by
  refine Met.ofW (cc := cX8_wouldGive) (maxL := 2) (ret := (some .int)) (by decide) rfl ?_
  intro p e s m args below meth c s₁ B hml hv
  obtain ⟨rfl, hsz, hP, hK, hS⟩ := n_entry hv
  have hx := B.exec
  have hb := B.bytes
  have hr := B.returns
  have hts := atoms_spec (ws := wsX8_wouldGive) B.pre
  have hown : s.vm.findClass RX8 = some m.cls := findClass_of_methodNamed B.named
  have hlocks := B.notSynchronized
  have iX8 : ∀ w ∈ u_ws RX8 TX8 8, w ∈ wsX8_wouldGive := by decide +kernel
  have hl := lv_entry ([.ref q, .int x]) (n := 2) (Nat.le_of_ble_eq_true rfl)
  rw [lg_entry_eq]
  generalize (lg_sl ([.ref q, .int x]) ++ List.replicate (2 - (lg_sl ([.ref q, .int x])).length) Slot.unset).toArray = ls at hl ⊢
  have hl : lv_has ls 2 [(0, .ref q), (1, .int x)] := hl
  have hof : ∀ a, a < lo + n → (a < q ∨ q + 22 ≤ a) → w a = w a := fun _ _ _ => rfl
  refine lv_aload_n hx hb dX8_wouldGive_0 rfl (lv_at hl 0 rfl) ?_
  refine lv_iconst (v := 0) hx hb dX8_wouldGive_1 (by decide) ?_
  refine x_put (ty := tyX8 0) (ref := RX8) (C := RX8) (T := TX8) (N := 8) (ci := 8) (v := .int (0 : Int32)) hx hb hts iX8 tyX8 tyX8_ok nmX8 hown hK.1.1 hP hS (by omega) (by omega) hM.self rfl 0 (by decide) (hts (.fieldLink RX8 29 "PoreFieldModel" "thrown" "I") (by decide +kernel)) (fun _ h9 => h9) rfl (by decide +kernel) rfl rfl (Nat.le_of_ble_eq_true rfl) dX8_wouldGive_2 (fun H locs hP hS => ?_)
  refine x_gen hP (fun v1 e1 hP => ?_)
  have hF : FM cy v1 (q + 1) 0 300 := by rw [e1]; exact hF.o (by omega)
  have hM : MM cy v1 q 0 5 0 0 0 := by rw [e1]; exact hM.up_self (th' := 0) (pr' := 5) (bk' := 0) (bo' := 0) (bw' := 0)
  have hB : LB cy v1 q := by rw [e1]; exact hB.o (by omega)
  have hof : ∀ a, a < lo + n → (a < q ∨ q + 22 ≤ a) → v1 a = w a := fun a h8 h9 => by rw [e1]; exact (xu_ne (by omega)).trans (hof a h8 h9)
  refine lv_iload_n hx hb dX8_wouldGive_5 rfl (lv_at hl 1 rfl) ?_
  refine lv_iconst (v := 1) hx hb dX8_wouldGive_6 (by decide) ?_
  refine lv_bipush (v := 12) hx hb dX8_wouldGive_7 (by decide) ?_
  refine x_calli (va_runS (As := [.int x, .int (1 : Int32), .int (12 : Int32)]) (rest := []) ⟨hx, hb, hml, hown, hts⟩ (c_X8_in l D cy lo n v1 x (1 : Int32) (12 : Int32)) (va_cwS 3 hts gX8_wouldGive_X8_in rfl rfl rfl (by decide +kernel) ⟨Nat.le_of_ble_eq_true rfl, Nat.le_of_ble_eq_true rfl⟩) (preS hP hK.1) rfl rfl hl.1 rfl (lv_room (Nat.le_of_ble_eq_true rfl)) dX8_wouldGive_9 ⟨by show _ ≤ 16; omega, by show _ ≤ 215; omega⟩) hS (fun H locs hP hS => ?_)
  refine x_top (v' := (1 : Int32)) (if_pos hgood) ?_
  obtain ⟨xi, h_xi, e_xi⟩ := nI_of2 (n := 12) (by decide) (Int32.not_lt.mpr (Int32.le_trans (by decide) hgood.1)) hgood.2
  subst e_xi
  refine lv_if_ne (tgt := 21) hx hb dX8_wouldGive_12 (by decide) (fun _ => ?_) (fun h => absurd h (by decide))
  refine lv_aload_n hx hb dX8_wouldGive_21 rfl (lv_at hl 0 rfl) ?_
  refine x_get (ref := RX8) (C := RX8) (T := TX8) (N := 8) (ci := 8) (v := .ref (q + 1)) hx hb hts iX8 hown hK.1.1 hP (by omega) (by omega) hM.self rfl 1 (by decide) (hts (.fieldLink RX8 10 "PoreFieldModel" "field" "LPoreFieldModel$Field;") (by decide +kernel)) (fun _ h9 => h9) rfl dX8_wouldGive_22 ?_
  refine x_szn (by omega) (by omega) hP (fun hzH => ?_)
  refine x_callrN (va_runV (As := []) (rest := []) ⟨hx, hb, hml, hown, hts⟩ (c_X7_copy l D cy lo n v1 (q + 1) (by omega) (by omega) 0 300 hF (lo + n) (by omega)) (cwV 0 hts gX8_wouldGive_X7_copy rfl rfl rfl (by decide +kernel) ⟨Nat.le_of_ble_eq_true rfl, Nat.le_of_ble_eq_true rfl⟩) (preVN hzH hP hK (x_recv (ci := 7) (q := (RX7, TX7, 14)) hK.1.1 hP (by omega) (by omega) rfl hF.self)) rfl rfl hl.1 rfl (lv_room (Nat.le_of_ble_eq_true rfl)) dX8_wouldGive_25 ⟨by show _ ≤ 16; omega, by show _ ≤ 215; omega⟩) hS (fun u2 H locs hX hP hzH hS => ?_)
  obtain ⟨hF, hG, hlo9⟩ := hX
  have hM := hM.ext (w' := u2) (fun a ha => hlo9 a (by omega))
  have hB := hB.ext (w' := u2) (hlo9 _ (by omega))
  have hof : ∀ a, a < lo + n → (a < q ∨ q + 22 ≤ a) → u2 a = w a := fun a h8 h9 => (hlo9 a (by omega)).trans (hof a h8 h9)
  refine lv_iload_n hx hb dX8_wouldGive_28 rfl (lv_at hl 1 rfl) ?_
  refine x_callx (va_runV (As := [.int (nI xi)]) (rest := []) ⟨hx, hb, hml, hown, hts⟩ (c_X7_run l D cy lo (n + 1 + 15) u2 (lo + n) (by omega) (by omega) 0 300 hG xi (by omega)) (cwV 1 hts gX8_wouldGive_X7_run rfl rfl rfl (by decide +kernel) ⟨Nat.le_of_ble_eq_true rfl, Nat.le_of_ble_eq_true rfl⟩) (preV hP hK.1 (x_recv (ci := 7) (q := (RX7, TX7, 14)) hK.1.1 hP (by omega) (by omega) rfl hG.self)) rfl rfl hl.1 rfl (lv_room (Nat.le_of_ble_eq_true rfl)) dX8_wouldGive_29 ⟨by show _ ≤ 16; omega, by show _ ≤ 215; omega⟩) hS (fun r9 u3 H locs hX hP hS => ?_)
  obtain ⟨rfl, ⟨nw3, hG⟩, hf9⟩ := hX
  have hF := hF.ext (w' := u3) (fun a g1 g2 => hf9 a (by omega))
  have hM := hM.ext (w' := u3) (fun a ha => hf9 a (by omega))
  have hB := hB.ext (w' := u3) (hf9 _ (by omega))
  have hof : ∀ a, a < lo + n → (a < q ∨ q + 22 ≤ a) → u3 a = w a := fun a h8 h9 => (hf9 a (by omega)).trans (hof a h8 h9)
  have eS : r_wouldGive (nI xi) = (0, (0 : Int32)) := by unfold r_wouldGive; rw [if_pos hgood]
  refine x_szn (by omega) (by omega) hP (fun hzH => ?_)
  exact W.iret (v := (0 : Int32)) hx hb hr (fun tE ht hW => ⟨⟨(0 : Int32), u3, rfl, by rw [eS]; exact ⟨⟨_, hM.self⟩, fun _ => rfl, hof⟩, x_at ht hP, by rw [ht]; exact hzH⟩, hS.F ht⟩) hS.2.2 dX8_wouldGive_32
