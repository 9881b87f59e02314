set_option maxRecDepth 100000 in
set_option maxHeartbeats 4000000 in
/-- X3_init -/
theorem c_X3_init (l : Launch) (D : va_G) (cy : Nat → ClassId) (lo n : Nat) (w : Nat → va_E) (a : Nat) (ho1 : lo ≤ a) (ho2 : a + 1 = lo + n) : Met l yX3_init wsX3_init ({ frames := 1, cells := 0, slots := 0, locals := 12 }) (PcN D cy lo n (va_up w a (.inr (3, [.int 0, .int 0, .int 0, .int 0]))) [.ref a]) (QvW D lo n (va_up w a (.inr (3, [.int 0, .int 0, .int 0, .int 0])))) 0 0 (fun q : Nat => lo ≤ q) := by
  refine Met.ofW (cc := cX3_init) (maxL := 1) (ret := none) (by decide) rfl ?_
  intro p e s m args below meth c s₁ B hml hv
  obtain ⟨rfl, hsz, hP, hK, hS⟩ := n_entry hv
  have hx := B.exec
  have hb := B.bytes
  have hr := B.returns
  have hts := atoms_spec (ws := wsX3_init) B.pre
  have hown : s.vm.findClass RX3 = some m.cls := findClass_of_methodNamed B.named
  have hin2 : meth.name = "<init>" := (name_of_methodNamed B.named B.method).1
  have hlocks := B.notSynchronized
  have hl := lv_entry ([.ref a]) (n := 1) (Nat.le_of_ble_eq_true rfl)
  rw [lg_entry_eq]
  generalize (lg_sl ([.ref a]) ++ List.replicate (1 - (lg_sl ([.ref a])).length) Slot.unset).toArray = ls at hl ⊢
  have hl : lv_has ls 1 [(0, .ref a)] := hl
  refine lv_aload_n hx hb dX3_init_0 rfl (lv_at hl 0 rfl) ?_
  refine W.objInit hx hb hown (hts (.methodLink RX3 1 objectInit) (by decide +kernel)) (hts (.instanceMethod objectInit) (by decide +kernel)) (hts (.code objectInit ⟨#[0xb1]⟩ 1 none) (by decide +kernel)) rfl (by rw [hml]; exact hl.1) rfl dX3_init_1 (Nat.le_of_ble_eq_true rfl) (Nat.le_of_ble_eq_true rfl) ?_
  exact W.vret hx hb hr (fun tE ht hW => ⟨⟨(), rfl, trivial, x_at ht (hP)⟩, hS.F ht⟩) hS.2.2 dX3_init_4

set_option maxRecDepth 100000 in
set_option maxHeartbeats 4000000 in
/-- X0_init -/
theorem c_X0_init (l : Launch) (D : va_G) (cy : Nat → ClassId) (lo n : Nat) (w : Nat → va_E) (a : Nat) (ho1 : lo ≤ a) (ho2 : a + 1 = lo + n) : Met l yX0_init wsX0_init ({ frames := 1, cells := 0, slots := 0, locals := 12 }) (PcN D cy lo n (va_up w a (.inr (0, [.int 0, .int 0, .int 0, .int 0, .int 0, .int 0, .int 0, .int 0]))) [.ref a]) (QvW D lo n (va_up w a (.inr (0, [.int 0, .int 0, .int 0, .int 0, .int (-1 : Int32), .int 0, .int 0, .int 0])))) 0 0 (fun q : Nat => lo ≤ q) := by
  refine Met.ofW (cc := cX0_init) (maxL := 1) (ret := none) (by decide) rfl ?_
  intro p e s m args below meth c s₁ B hml hv
  obtain ⟨rfl, hsz, hP, hK, hS⟩ := n_entry hv
  have hx := B.exec
  have hb := B.bytes
  have hr := B.returns
  have hts := atoms_spec (ws := wsX0_init) B.pre
  have hown : s.vm.findClass RX0 = some m.cls := findClass_of_methodNamed B.named
  have hin2 : meth.name = "<init>" := (name_of_methodNamed B.named B.method).1
  have hlocks := B.notSynchronized
  have iX0 : ∀ w ∈ u_ws RX0 TX0 8, w ∈ wsX0_init := by decide +kernel
  have hl := lv_entry ([.ref a]) (n := 1) (Nat.le_of_ble_eq_true rfl)
  rw [lg_entry_eq]
  generalize (lg_sl ([.ref a]) ++ List.replicate (1 - (lg_sl ([.ref a])).length) Slot.unset).toArray = ls at hl ⊢
  have hl : lv_has ls 1 [(0, .ref a)] := hl
  refine lv_aload_n hx hb dX0_init_0 rfl (lv_at hl 0 rfl) ?_
  refine W.objInit hx hb hown (hts (.methodLink RX0 3 objectInit) (by decide +kernel)) (hts (.instanceMethod objectInit) (by decide +kernel)) (hts (.code objectInit ⟨#[0xb1]⟩ 1 none) (by decide +kernel)) rfl (by rw [hml]; exact hl.1) rfl dX0_init_1 (Nat.le_of_ble_eq_true rfl) (Nat.le_of_ble_eq_true rfl) ?_
  refine lv_aload_n hx hb dX0_init_4 rfl (lv_at hl 0 rfl) ?_
  refine lv_iconst (v := -1) hx hb dX0_init_5 (by decide) ?_
  refine x_put (ty := .int) (ref := RX0) (C := RX0) (T := TX0) (N := 8) (ci := 0) (v := .int (-1 : Int32)) hx hb hts iX0 tyX0 tyX0_ok nmX0 hown hK.1.1 hP hS (by omega) (by omega) (xu_same _ _ _) rfl 4 (by decide) (hts (.fieldLink RX0 9 "PoreField$Booking" "at" "I") (by decide +kernel)) (fun _ h9 => h9) rfl (by decide +kernel) rfl rfl (Nat.le_of_ble_eq_true rfl) dX0_init_6 (fun H locs hP hS => ?_)
  have hE : (va_up (va_up w a (.inr (0, [.int 0, .int 0, .int 0, .int 0, .int 0, .int 0, .int 0, .int 0]))) a (.inr (0, [.int 0, .int 0, .int 0, .int 0, .int (-1 : Int32), .int 0, .int 0, .int 0]))) = (va_up w a (.inr (0, [.int 0, .int 0, .int 0, .int 0, .int (-1 : Int32), .int 0, .int 0, .int 0]))) := by
    funext q
    unfold va_up
    by_cases h2 : q = a <;> simp [h2]
  have hP : va_P D vwCl (rl lo n (va_up (va_up w a (.inr (0, [.int 0, .int 0, .int 0, .int 0, .int 0, .int 0, .int 0, .int 0]))) a (.inr (0, [.int 0, .int 0, .int 0, .int 0, .int (-1 : Int32), .int 0, .int 0, .int 0])))) H := hP
  rw [hE] at hP
  exact W.vret hx hb hr (fun tE ht hW => ⟨⟨(), rfl, trivial, x_at ht (hP)⟩, hS.F ht⟩) hS.2.2 dX0_init_9

set_option maxRecDepth 100000 in
set_option maxHeartbeats 4000000 in
/-- X5_init -/
theorem c_X5_init (l : Launch) (D : va_G) (cy : Nat → ClassId) (lo n : Nat) (w : Nat → va_E) (a : Nat) (ho1 : lo ≤ a) (ho2 : a + 1 = lo + n) : Met l yX5_init wsX5_init ({ frames := 1, cells := 1, slots := 3, locals := 12 }) (PcN D cy lo n (va_up w a (.inr (5, [.int 0, .int 0, .null, .int 0, .int 0]))) [.ref a]) (QvW D lo (n + 1) (va_up (va_up w a (.inr (5, [.int 0, .int 0, .ref (a + 1), .int 0, .int 0]))) (a + 1) (.inl (cy 0, 3, .inl (fun _ => 0))))) 1 3 (fun q : Nat => lo ≤ q) := by
  refine Met.ofW (cc := cX5_init) (maxL := 1) (ret := none) (by decide) rfl ?_
  intro p e s m args below meth c s₁ B hml hv
  obtain ⟨rfl, hsz, hP, hK, hS⟩ := n_entry hv
  have hx := B.exec
  have hb := B.bytes
  have hr := B.returns
  have hts := atoms_spec (ws := wsX5_init) B.pre
  have hown : s.vm.findClass RX5 = some m.cls := findClass_of_methodNamed B.named
  have hin2 : meth.name = "<init>" := (name_of_methodNamed B.named B.method).1
  have hlocks := B.notSynchronized
  have iX5 : ∀ w ∈ u_ws RX5 TX5 5, w ∈ wsX5_init := by decide +kernel
  have hl := lv_entry ([.ref a]) (n := 1) (Nat.le_of_ble_eq_true rfl)
  rw [lg_entry_eq]
  generalize (lg_sl ([.ref a]) ++ List.replicate (1 - (lg_sl ([.ref a])).length) Slot.unset).toArray = ls at hl ⊢
  have hl : lv_has ls 1 [(0, .ref a)] := hl
  refine lv_aload_n hx hb dX5_init_0 rfl (lv_at hl 0 rfl) ?_
  refine W.objInit hx hb hown (hts (.methodLink RX5 3 objectInit) (by decide +kernel)) (hts (.instanceMethod objectInit) (by decide +kernel)) (hts (.code objectInit ⟨#[0xb1]⟩ 1 none) (by decide +kernel)) rfl (by rw [hml]; exact hl.1) rfl dX5_init_1 (Nat.le_of_ble_eq_true rfl) (Nat.le_of_ble_eq_true rfl) ?_
  refine lv_aload_n hx hb dX5_init_4 rfl (lv_at hl 0 rfl) ?_
  refine lv_iconst (v := 3) hx hb dX5_init_5 (by decide) ?_
  refine n_newi (q0 := (a + 1)) (N := 3) hx hb (hts (.arrayClass .int) (by decide +kernel)) hK.1.1 hP hS (by omega) (by omega) (by omega) 0 rfl (by decide) (by decide) (by omega) (by show _ ≤ 1; omega) (by show _ ≤ 3; omega) dX5_init_6 (fun H hP hS => ?_)
  refine x_putF (ty := tyX5 2) (ref := RX5) (C := RX5) (T := TX5) (N := 5) (ci := 5) (v := .ref (a + 1)) hx hb hts iX5 tyX5 tyX5_ok nmX5 hown hK.1.1 hP hS (by omega) (by omega) (((xu_ne (by omega)).trans (xu_same _ _ _))) rfl 2 (by decide) (hts (.fieldLink RX5 9 "PoreField$WellLog" "test" "[I") (by decide +kernel)) (fun _ h9 => h9) rfl hin2 rfl (by decide +kernel) rfl rfl (Nat.le_of_ble_eq_true rfl) dX5_init_8 (fun H locs hP hS => ?_)
  have hE : (va_up (va_up (va_up w a (.inr (5, [.int 0, .int 0, .null, .int 0, .int 0]))) (a + 1) (.inl (cy 0, 3, .inl (fun _ => 0)))) a (.inr (5, [.int 0, .int 0, .ref (a + 1), .int 0, .int 0]))) = (va_up (va_up w a (.inr (5, [.int 0, .int 0, .ref (a + 1), .int 0, .int 0]))) (a + 1) (.inl (cy 0, 3, .inl (fun _ => 0)))) := by
    funext q
    unfold va_up
    by_cases h1 : q = a + 1
    · have h2 : ¬ q = a := by omega
      simp [h1, h2]
    · by_cases h2 : q = a
      · simp [h1, h2]
      · simp [h1, h2]
  have hP : va_P D vwCl (rl lo (n + 1) (va_up (va_up (va_up w a (.inr (5, [.int 0, .int 0, .null, .int 0, .int 0]))) (a + 1) (.inl (cy 0, 3, .inl (fun _ => 0)))) a (.inr (5, [.int 0, .int 0, .ref (a + 1), .int 0, .int 0])))) H := hP
  rw [hE] at hP
  exact W.vret hx hb hr (fun tE ht hW => ⟨⟨(), rfl, trivial, x_at ht (hP)⟩, hS.F ht⟩) hS.2.2 dX5_init_11

set_option maxRecDepth 100000 in
set_option maxHeartbeats 4000000 in
/-- X4_init -/
theorem c_X4_init (l : Launch) (D : va_G) (cy : Nat → ClassId) (lo n : Nat) (w : Nat → va_E) (a : Nat) (ho1 : lo ≤ a) (ho2 : a + 1 = lo + n) : Met l yX4_init wsX4_init ({ frames := 1, cells := 1, slots := 3, locals := 12 }) (PcN D cy lo n (va_up w a (.inr (4, [.int 0, .int 0, .int 0, .int 0, .null]))) [.ref a]) (QvW D lo (n + 1) (va_up (va_up w a (.inr (4, [.int 0, .int 0, .int 0, .int 5, .ref (a + 1)]))) (a + 1) (.inl (cy 0, 3, .inl (fun _ => 0))))) 1 3 (fun q : Nat => lo ≤ q) := by
  refine Met.ofW (cc := cX4_init) (maxL := 1) (ret := none) (by decide) rfl ?_
  intro p e s m args below meth c s₁ B hml hv
  obtain ⟨rfl, hsz, hP, hK, hS⟩ := n_entry hv
  have hx := B.exec
  have hb := B.bytes
  have hr := B.returns
  have hts := atoms_spec (ws := wsX4_init) B.pre
  have hown : s.vm.findClass RX4 = some m.cls := findClass_of_methodNamed B.named
  have hin2 : meth.name = "<init>" := (name_of_methodNamed B.named B.method).1
  have hlocks := B.notSynchronized
  have iX4 : ∀ w ∈ u_ws RX4 TX4 5, w ∈ wsX4_init := by decide +kernel
  have hl := lv_entry ([.ref a]) (n := 1) (Nat.le_of_ble_eq_true rfl)
  rw [lg_entry_eq]
  generalize (lg_sl ([.ref a]) ++ List.replicate (1 - (lg_sl ([.ref a])).length) Slot.unset).toArray = ls at hl ⊢
  have hl : lv_has ls 1 [(0, .ref a)] := hl
  refine lv_aload_n hx hb dX4_init_0 rfl (lv_at hl 0 rfl) ?_
  refine W.objInit hx hb hown (hts (.methodLink RX4 3 objectInit) (by decide +kernel)) (hts (.instanceMethod objectInit) (by decide +kernel)) (hts (.code objectInit ⟨#[0xb1]⟩ 1 none) (by decide +kernel)) rfl (by rw [hml]; exact hl.1) rfl dX4_init_1 (Nat.le_of_ble_eq_true rfl) (Nat.le_of_ble_eq_true rfl) ?_
  refine lv_aload_n hx hb dX4_init_4 rfl (lv_at hl 0 rfl) ?_
  refine lv_iconst (v := 5) hx hb dX4_init_5 (by decide) ?_
  refine x_put (ty := .int) (ref := RX4) (C := RX4) (T := TX4) (N := 5) (ci := 4) (v := .int (5 : Int32)) hx hb hts iX4 tyX4 tyX4_ok nmX4 hown hK.1.1 hP hS (by omega) (by omega) (xu_same _ _ _) rfl 3 (by decide) (hts (.fieldLink RX4 9 "PoreField$Well" "rank" "I") (by decide +kernel)) (fun _ h9 => h9) rfl (by decide +kernel) rfl rfl (Nat.le_of_ble_eq_true rfl) dX4_init_6 (fun H locs hP hS => ?_)
  refine lv_aload_n hx hb dX4_init_9 rfl (lv_at hl 0 rfl) ?_
  refine lv_iconst (v := 3) hx hb dX4_init_10 (by decide) ?_
  refine n_newi (q0 := (a + 1)) (N := 3) hx hb (hts (.arrayClass .int) (by decide +kernel)) hK.1.1 hP hS (by omega) (by omega) (by omega) 0 rfl (by decide) (by decide) (by omega) (by show _ ≤ 1; omega) (by show _ ≤ 3; omega) dX4_init_11 (fun H hP hS => ?_)
  refine x_putF (ty := tyX4 4) (ref := RX4) (C := RX4) (T := TX4) (N := 5) (ci := 4) (v := .ref (a + 1)) hx hb hts iX4 tyX4 tyX4_ok nmX4 hown hK.1.1 hP hS (by omega) (by omega) (((xu_ne (by omega)).trans (xu_same _ _ _))) rfl 4 (by decide) (hts (.fieldLink RX4 15 "PoreField$Well" "gave" "[I") (by decide +kernel)) (fun _ h9 => h9) rfl hin2 rfl (by decide +kernel) rfl rfl (Nat.le_of_ble_eq_true rfl) dX4_init_13 (fun H locs hP hS => ?_)
  have hE : (va_up (va_up (va_up (va_up w a (.inr (4, [.int 0, .int 0, .int 0, .int 0, .null]))) a (.inr (4, [.int 0, .int 0, .int 0, .int (5 : Int32), .null]))) (a + 1) (.inl (cy 0, 3, .inl (fun _ => 0)))) a (.inr (4, [.int 0, .int 0, .int 0, .int (5 : Int32), .ref (a + 1)]))) = (va_up (va_up w a (.inr (4, [.int 0, .int 0, .int 0, .int 5, .ref (a + 1)]))) (a + 1) (.inl (cy 0, 3, .inl (fun _ => 0)))) := by
    funext q
    unfold va_up
    by_cases h1 : q = a + 1
    · have h2 : ¬ q = a := by omega
      simp [h1, h2]
    · by_cases h2 : q = a
      · simp [h1, h2]
      · simp [h1, h2]
  have hP : va_P D vwCl (rl lo (n + 1) (va_up (va_up (va_up (va_up w a (.inr (4, [.int 0, .int 0, .int 0, .int 0, .null]))) a (.inr (4, [.int 0, .int 0, .int 0, .int (5 : Int32), .null]))) (a + 1) (.inl (cy 0, 3, .inl (fun _ => 0)))) a (.inr (4, [.int 0, .int 0, .int 0, .int (5 : Int32), .ref (a + 1)])))) H := hP
  rw [hE] at hP
  exact W.vret hx hb hr (fun tE ht hW => ⟨⟨(), rfl, trivial, x_at ht (hP)⟩, hS.F ht⟩) hS.2.2 dX4_init_16

set_option maxRecDepth 100000 in
set_option maxHeartbeats 4000000 in
/-- X1_init -/
theorem c_X1_init (l : Launch) (D : va_G) (cy : Nat → ClassId) (lo n : Nat) (w : Nat → va_E) (a : Nat) (ho1 : lo ≤ a) (ho2 : a + 1 = lo + n) : Met l yX1_init wsX1_init ({ frames := 1, cells := 1, slots := 3, locals := 12 }) (PcN D cy lo n (va_up w a (.inr (1, [.int 0, .null, .int 0, .int 0]))) [.ref a]) (QvW D lo (n + 1) (va_up (va_up w a (.inr (1, [.int 40, .ref (a + 1), .int 0, .int 0]))) (a + 1) (.inl (cy 0, 3, .inl (fun _ => 0))))) 1 3 (fun q : Nat => lo ≤ q) := by
  refine Met.ofW (cc := cX1_init) (maxL := 1) (ret := none) (by decide) rfl ?_
  intro p e s m args below meth c s₁ B hml hv
  obtain ⟨rfl, hsz, hP, hK, hS⟩ := n_entry hv
  have hx := B.exec
  have hb := B.bytes
  have hr := B.returns
  have hts := atoms_spec (ws := wsX1_init) B.pre
  have hown : s.vm.findClass RX1 = some m.cls := findClass_of_methodNamed B.named
  have hin2 : meth.name = "<init>" := (name_of_methodNamed B.named B.method).1
  have hlocks := B.notSynchronized
  have iX1 : ∀ w ∈ u_ws RX1 TX1 4, w ∈ wsX1_init := by decide +kernel
  have hl := lv_entry ([.ref a]) (n := 1) (Nat.le_of_ble_eq_true rfl)
  rw [lg_entry_eq]
  generalize (lg_sl ([.ref a]) ++ List.replicate (1 - (lg_sl ([.ref a])).length) Slot.unset).toArray = ls at hl ⊢
  have hl : lv_has ls 1 [(0, .ref a)] := hl
  refine lv_aload_n hx hb dX1_init_0 rfl (lv_at hl 0 rfl) ?_
  refine W.objInit hx hb hown (hts (.methodLink RX1 3 objectInit) (by decide +kernel)) (hts (.instanceMethod objectInit) (by decide +kernel)) (hts (.code objectInit ⟨#[0xb1]⟩ 1 none) (by decide +kernel)) rfl (by rw [hml]; exact hl.1) rfl dX1_init_1 (Nat.le_of_ble_eq_true rfl) (Nat.le_of_ble_eq_true rfl) ?_
  refine lv_aload_n hx hb dX1_init_4 rfl (lv_at hl 0 rfl) ?_
  refine lv_bipush (v := 40) hx hb dX1_init_5 (by decide) ?_
  refine x_put (ty := .int) (ref := RX1) (C := RX1) (T := TX1) (N := 4) (ci := 1) (v := .int (40 : Int32)) hx hb hts iX1 tyX1 tyX1_ok nmX1 hown hK.1.1 hP hS (by omega) (by omega) (xu_same _ _ _) rfl 0 (by decide) (hts (.fieldLink RX1 9 "PoreField$Cell" "room" "I") (by decide +kernel)) (fun _ h9 => h9) rfl (by decide +kernel) rfl rfl (Nat.le_of_ble_eq_true rfl) dX1_init_7 (fun H locs hP hS => ?_)
  refine lv_aload_n hx hb dX1_init_10 rfl (lv_at hl 0 rfl) ?_
  refine lv_iconst (v := 3) hx hb dX1_init_11 (by decide) ?_
  refine n_newi (q0 := (a + 1)) (N := 3) hx hb (hts (.arrayClass .int) (by decide +kernel)) hK.1.1 hP hS (by omega) (by omega) (by omega) 0 rfl (by decide) (by decide) (by omega) (by show _ ≤ 1; omega) (by show _ ≤ 3; omega) dX1_init_12 (fun H hP hS => ?_)
  refine x_putF (ty := tyX1 1) (ref := RX1) (C := RX1) (T := TX1) (N := 4) (ci := 1) (v := .ref (a + 1)) hx hb hts iX1 tyX1 tyX1_ok nmX1 hown hK.1.1 hP hS (by omega) (by omega) (((xu_ne (by omega)).trans (xu_same _ _ _))) rfl 1 (by decide) (hts (.fieldLink RX1 15 "PoreField$Cell" "fluids" "[I") (by decide +kernel)) (fun _ h9 => h9) rfl hin2 rfl (by decide +kernel) rfl rfl (Nat.le_of_ble_eq_true rfl) dX1_init_14 (fun H locs hP hS => ?_)
  have hE : (va_up (va_up (va_up (va_up w a (.inr (1, [.int 0, .null, .int 0, .int 0]))) a (.inr (1, [.int (40 : Int32), .null, .int 0, .int 0]))) (a + 1) (.inl (cy 0, 3, .inl (fun _ => 0)))) a (.inr (1, [.int (40 : Int32), .ref (a + 1), .int 0, .int 0]))) = (va_up (va_up w a (.inr (1, [.int 40, .ref (a + 1), .int 0, .int 0]))) (a + 1) (.inl (cy 0, 3, .inl (fun _ => 0)))) := by
    funext q
    unfold va_up
    by_cases h1 : q = a + 1
    · have h2 : ¬ q = a := by omega
      simp [h1, h2]
    · by_cases h2 : q = a
      · simp [h1, h2]
      · simp [h1, h2]
  have hP : va_P D vwCl (rl lo (n + 1) (va_up (va_up (va_up (va_up w a (.inr (1, [.int 0, .null, .int 0, .int 0]))) a (.inr (1, [.int (40 : Int32), .null, .int 0, .int 0]))) (a + 1) (.inl (cy 0, 3, .inl (fun _ => 0)))) a (.inr (1, [.int (40 : Int32), .ref (a + 1), .int 0, .int 0])))) H := hP
  rw [hE] at hP
  exact W.vret hx hb hr (fun tE ht hW => ⟨⟨(), rfl, trivial, x_at ht (hP)⟩, hS.F ht⟩) hS.2.2 dX1_init_17

set_option maxRecDepth 100000 in
set_option maxHeartbeats 4000000 in
/-- Ground.init -/
theorem c_X2_init (l : Launch) (D : va_G) (cy : Nat → ClassId) (lo n : Nat) (w : Nat → va_E) (g : Nat) (ho1 : lo ≤ g) (ho2 : g + 1 = lo + n) : Met l yX2_init wsX2_init ({ frames := 2, cells := 48, slots := 188, locals := 33 }) (PcN D cy lo n (va_up w g (.inr (2, [.null, .null, .int 0, .null, .int 0, .int 0, .int 0, .null, .int 0, .int 0, .int 0, .int 0]))) [.ref g]) (QvW D lo (n + 48) (gw cy w g G0)) 48 188 (fun q : Nat => lo ≤ q) := by
  refine Met.ofW (cc := cX2_init) (maxL := 2) (ret := none) (by decide) rfl ?_
  intro p e s m args below meth c s₁ B hml hv
  obtain ⟨rfl, hsz, hP, hK, hS⟩ := n_entry hv
  have hx := B.exec
  have hb := B.bytes
  have hr := B.returns
  have hts := atoms_spec (ws := wsX2_init) B.pre
  have hown : s.vm.findClass RX2 = some m.cls := findClass_of_methodNamed B.named
  have hin2 : meth.name = "<init>" := (name_of_methodNamed B.named B.method).1
  have hlocks := B.notSynchronized
  have iX1 : ∀ w ∈ u_ws RX1 TX1 4, w ∈ wsX2_init := by decide +kernel
  have iX2 : ∀ w ∈ u_ws RX2 TX2 12, w ∈ wsX2_init := by decide +kernel
  have iX4 : ∀ w ∈ u_ws RX4 TX4 5, w ∈ wsX2_init := by decide +kernel
  have hl := lv_entry ([.ref g]) (n := 2) (Nat.le_of_ble_eq_true rfl)
  rw [lg_entry_eq]
  generalize (lg_sl ([.ref g]) ++ List.replicate (2 - (lg_sl ([.ref g])).length) Slot.unset).toArray = ls at hl ⊢
  have hl : lv_has ls 2 [(0, .ref g)] := hl
  refine lv_aload_n hx hb dX2_init_0 rfl (lv_at hl 0 rfl) ?_
  refine W.objInit hx hb hown (hts (.methodLink RX2 3 objectInit) (by decide +kernel)) (hts (.instanceMethod objectInit) (by decide +kernel)) (hts (.code objectInit ⟨#[0xb1]⟩ 1 none) (by decide +kernel)) rfl (by rw [hml]; exact hl.1) rfl dX2_init_1 (Nat.le_of_ble_eq_true rfl) (Nat.le_of_ble_eq_true rfl) ?_
  refine lv_aload_n hx hb dX2_init_4 rfl (lv_at hl 0 rfl) ?_
  refine lv_bipush (v := 16) hx hb dX2_init_5 (by decide) ?_
  refine n_newq (C := RX1) (q0 := (g + 1)) (N := 16) hx hb hown (hts (.classLink RX2 9 RX1) (by decide +kernel)) hK.2.2.1 hK.1.1 hP hS (by omega) (by omega) (by omega) 1 rfl (by decide) (by decide) (by omega) (by show _ ≤ 48; omega) (by show _ ≤ 188; omega) dX2_init_7 (fun H hP hS => ?_)
  refine x_putF (ty := tyX2 0) (ref := RX2) (C := RX2) (T := TX2) (N := 12) (ci := 2) (v := .ref (g + 1)) hx hb hts iX2 tyX2 tyX2_ok nmX2 hown hK.1.1 hP hS (by omega) (by omega) (((xu_ne (by omega)).trans (xu_same _ _ _))) rfl 0 (by decide) (hts (.fieldLink RX2 11 "PoreField$Ground" "cells" "[LPoreField$Cell;") (by decide +kernel)) (fun _ h9 => h9) rfl hin2 rfl (by decide +kernel) rfl rfl (Nat.le_of_ble_eq_true rfl) dX2_init_10 (fun H locs hP hS => ?_)
  refine lv_aload_n hx hb dX2_init_13 rfl (lv_at hl 0 rfl) ?_
  refine lv_bipush (v := 6) hx hb dX2_init_14 (by decide) ?_
  refine n_newq (C := RX4) (q0 := (g + 2)) (N := 6) hx hb hown (hts (.classLink RX2 17 RX4) (by decide +kernel)) hK.2.2.2.1 hK.1.1 hP hS (by omega) (by omega) (by omega) 2 rfl (by decide) (by decide) (by omega) (by show _ ≤ 48; omega) (by show _ ≤ 188; omega) dX2_init_16 (fun H hP hS => ?_)
  refine x_putF (ty := tyX2 1) (ref := RX2) (C := RX2) (T := TX2) (N := 12) (ci := 2) (v := .ref (g + 2)) hx hb hts iX2 tyX2 tyX2_ok nmX2 hown hK.1.1 hP hS (by omega) (by omega) (((xu_ne (by omega)).trans (xu_same _ _ _))) rfl 1 (by decide) (hts (.fieldLink RX2 19 "PoreField$Ground" "wells" "[LPoreField$Well;") (by decide +kernel)) (fun _ h9 => h9) rfl hin2 rfl (by decide +kernel) rfl rfl (Nat.le_of_ble_eq_true rfl) dX2_init_19 (fun H locs hP hS => ?_)
  refine lv_aload_n hx hb dX2_init_22 rfl (lv_at hl 0 rfl) ?_
  refine lv_iconst (v := 3) hx hb dX2_init_23 (by decide) ?_
  refine n_newi (q0 := (g + 3)) (N := 3) hx hb (hts (.arrayClass .int) (by decide +kernel)) hK.1.1 hP hS (by omega) (by omega) (by omega) 0 rfl (by decide) (by decide) (by omega) (by show _ ≤ 48; omega) (by show _ ≤ 188; omega) dX2_init_24 (fun H hP hS => ?_)
  refine x_putF (ty := tyX2 3) (ref := RX2) (C := RX2) (T := TX2) (N := 12) (ci := 2) (v := .ref (g + 3)) hx hb hts iX2 tyX2 tyX2_ok nmX2 hown hK.1.1 hP hS (by omega) (by omega) (((xu_ne (by omega)).trans (xu_same _ _ _))) rfl 3 (by decide) (hts (.fieldLink RX2 23 "PoreField$Ground" "capacity" "[I") (by decide +kernel)) (fun _ h9 => h9) rfl hin2 rfl (by decide +kernel) rfl rfl (Nat.le_of_ble_eq_true rfl) dX2_init_26 (fun H locs hP hS => ?_)
  refine lv_aload_n hx hb dX2_init_29 rfl (lv_at hl 0 rfl) ?_
  refine lv_bipush (v := 10) hx hb dX2_init_30 (by decide) ?_
  refine x_put (ty := .int) (ref := RX2) (C := RX2) (T := TX2) (N := 12) (ci := 2) (v := .int (10 : Int32)) hx hb hts iX2 tyX2 tyX2_ok nmX2 hown hK.1.1 hP hS (by omega) (by omega) (xu_same _ _ _) rfl 4 (by decide) (hts (.fieldLink RX2 27 "PoreField$Ground" "permit" "I") (by decide +kernel)) (fun _ h9 => h9) rfl (by decide +kernel) rfl rfl (Nat.le_of_ble_eq_true rfl) dX2_init_32 (fun H locs hP hS => ?_)
  refine lv_aload_n hx hb dX2_init_35 rfl (lv_at hl 0 rfl) ?_
  refine lv_sipush (v := 300) hx hb dX2_init_36 (by decide) ?_
  refine x_put (ty := .int) (ref := RX2) (C := RX2) (T := TX2) (N := 12) (ci := 2) (v := .int (300 : Int32)) hx hb hts iX2 tyX2 tyX2_ok nmX2 hown hK.1.1 hP hS (by omega) (by omega) (xu_same _ _ _) rfl 5 (by decide) (hts (.fieldLink RX2 31 "PoreField$Ground" "tankSize" "I") (by decide +kernel)) (fun _ h9 => h9) rfl (by decide +kernel) rfl rfl (Nat.le_of_ble_eq_true rfl) dX2_init_39 (fun H locs hP hS => ?_)
  refine lv_aload_n hx hb dX2_init_42 rfl (lv_at hl 0 rfl) ?_
  refine lv_iconst (v := 3) hx hb dX2_init_43 (by decide) ?_
  refine n_newi (q0 := (g + 4)) (N := 3) hx hb (hts (.arrayClass .int) (by decide +kernel)) hK.1.1 hP hS (by omega) (by omega) (by omega) 0 rfl (by decide) (by decide) (by omega) (by show _ ≤ 48; omega) (by show _ ≤ 188; omega) dX2_init_44 (fun H hP hS => ?_)
  refine x_putF (ty := tyX2 7) (ref := RX2) (C := RX2) (T := TX2) (N := 12) (ci := 2) (v := .ref (g + 4)) hx hb hts iX2 tyX2 tyX2_ok nmX2 hown hK.1.1 hP hS (by omega) (by omega) (((xu_ne (by omega)).trans (xu_same _ _ _))) rfl 7 (by decide) (hts (.fieldLink RX2 34 "PoreField$Ground" "cameUp" "[I") (by decide +kernel)) (fun _ h9 => h9) rfl hin2 rfl (by decide +kernel) rfl rfl (Nat.le_of_ble_eq_true rfl) dX2_init_46 (fun H locs hP hS => ?_)
  refine lv_iconst (v := 0) hx hb dX2_init_49 (by decide) ?_
  refine lv_istore_n (lv' := [(1, .int (0 : Int32)), (0, .ref g)]) hx hb dX2_init_50 rfl hl (by decide) rfl (fun ls hl => ?_)
  have hloop51 : ∀ (nc_r nc : Nat) (H : Heap) (locs : List Loc) (ls : Array Slot), nc + nc_r = 16 → lv_has ls 2 [(1, .int (nI nc)), (0, .ref g)] → va_P D vwCl (rl lo (n + (4 + 2 * nc)) (gi cy w g nc 0 (fun _ => 0))) H → va_S (fun q : Nat => lo ≤ q) s.heap H locs → W p l e (headSpec wsX2_init ({ frames := 2, cells := 48, slots := 188, locals := 33 })).room s m ([.ref g] : List Value).toArray below meth c H locs (4 + 2 * nc) (28 + 7 * nc) (MQ below (QvW D lo (n + 48) (gw cy w g G0)) ([.ref g] : List Value).toArray s 48 188 (fun q : Nat => lo ≤ q)) (F0 m 51 ls []) := by
    intro nc_r
    induction nc_r with
    | zero =>
      intro nc H locs ls hk51 hl hP hS
      obtain rfl : nc = 16 := by omega
      refine lv_iload_n hx hb dX2_init_51 rfl (lv_at hl 0 rfl) ?_
      refine lv_bipush (v := 16) hx hb dX2_init_52 (by decide) ?_
      refine lv_icmp_ge (tgt := 76) hx hb dX2_init_54 (by decide) (fun _ => ?_) (fun c => absurd ((br_le (show (16 : Int32) = nI 16 from rfl) (show (nI 16) = nI 16 from rfl) (by omega) (by omega)).mpr (by omega)) c)
      refine lv_iconst (v := 0) hx hb dX2_init_76 (by decide) ?_
      refine lv_istore_n (lv' := [(1, .int (0 : Int32)), (0, .ref g)]) hx hb dX2_init_77 rfl hl (by decide) rfl (fun ls hl => ?_)
      have hloop78 : ∀ (nw_r nw : Nat) (H : Heap) (locs : List Loc) (ls : Array Slot), nw + nw_r = 6 → lv_has ls 2 [(1, .int (nI nw)), (0, .ref g)] → va_P D vwCl (rl lo (n + (36 + 2 * nw)) (gi cy w g 16 nw (fun _ => 0))) H → va_S (fun q : Nat => lo ≤ q) s.heap H locs → W p l e (headSpec wsX2_init ({ frames := 2, cells := 48, slots := 188, locals := 33 })).room s m ([.ref g] : List Value).toArray below meth c H locs (36 + 2 * nw) (140 + 8 * nw) (MQ below (QvW D lo (n + 48) (gw cy w g G0)) ([.ref g] : List Value).toArray s 48 188 (fun q : Nat => lo ≤ q)) (F0 m 78 ls []) := by
        intro nw_r
        induction nw_r with
        | zero =>
          intro nw H locs ls hk78 hl hP hS
          obtain rfl : nw = 6 := by omega
          refine lv_iload_n hx hb dX2_init_78 rfl (lv_at hl 0 rfl) ?_
          refine lv_bipush (v := 6) hx hb dX2_init_79 (by decide) ?_
          refine lv_icmp_ge (tgt := 103) hx hb dX2_init_81 (by decide) (fun _ => ?_) (fun c => absurd ((br_le (show (6 : Int32) = nI 6 from rfl) (show (nI 6) = nI 6 from rfl) (by omega) (by omega)).mpr (by omega)) c)
          refine lv_iconst (v := 0) hx hb dX2_init_103 (by decide) ?_
          refine lv_istore_n (lv' := [(1, .int (0 : Int32)), (0, .ref g)]) hx hb dX2_init_104 rfl hl (by decide) rfl (fun ls hl => ?_)
          have hloop105 : ∀ (f_r f : Nat) (H : Heap) (locs : List Loc) (ls : Array Slot), f + f_r = 3 → lv_has ls 2 [(1, .int (nI f)), (0, .ref g)] → va_P D vwCl (rl lo (n + 48) (gi cy w g 16 6 (fo (fun f c => upd c f 40) f (fun _ => 0)))) H → va_S (fun q : Nat => lo ≤ q) s.heap H locs → W p l e (headSpec wsX2_init ({ frames := 2, cells := 48, slots := 188, locals := 33 })).room s m ([.ref g] : List Value).toArray below meth c H locs 48 188 (MQ below (QvW D lo (n + 48) (gw cy w g G0)) ([.ref g] : List Value).toArray s 48 188 (fun q : Nat => lo ≤ q)) (F0 m 105 ls []) := by
            intro f_r
            induction f_r with
            | zero =>
              intro f H locs ls hk105 hl hP hS
              obtain rfl : f = 3 := by omega
              refine lv_iload_n hx hb dX2_init_105 rfl (lv_at hl 0 rfl) ?_
              refine lv_iconst (v := 3) hx hb dX2_init_106 (by decide) ?_
              refine lv_icmp_ge (tgt := 124) hx hb dX2_init_107 (by decide) (fun _ => ?_) (fun c => absurd ((br_le (show (3 : Int32) = nI 3 from rfl) (show (nI 3) = nI 3 from rfl) (by omega) (by omega)).mpr (by omega)) c)
              have hP := gi_gw hP
              exact W.vret hx hb hr (fun tE ht hW => ⟨⟨(), rfl, trivial, x_at ht (hP)⟩, hS.F ht⟩) hS.2.2 dX2_init_124
            | succ f_r ih105 =>
              intro f H locs ls hk105 hl hP hS
              refine lv_iload_n hx hb dX2_init_105 rfl (lv_at hl 0 rfl) ?_
              refine lv_iconst (v := 3) hx hb dX2_init_106 (by decide) ?_
              refine lv_icmp_ge (tgt := 124) hx hb dX2_init_107 (by decide) (fun c => absurd ((br_le (show (3 : Int32) = nI 3 from rfl) (show (nI f) = nI f from rfl) (by omega) (by omega)).mp c) (by omega)) (fun _ => ?_)
              refine lv_aload_n hx hb dX2_init_110 rfl (lv_at hl 1 rfl) ?_
              refine x_get (ref := RX2) (C := RX2) (T := TX2) (N := 12) (ci := 2) (v := .ref (g + 3)) hx hb hts iX2 hown hK.1.1 hP (by omega) (by omega) (gi_0) rfl 3 (by decide) (hts (.fieldLink RX2 23 "PoreField$Ground" "capacity" "[I") (by decide +kernel)) (fun _ h9 => h9) rfl dX2_init_111 ?_
              refine lv_iload_n hx hb dX2_init_114 rfl (lv_at hl 0 rfl) ?_
              refine lv_bipush (v := 40) hx hb dX2_init_115 (by decide) ?_
              refine x_iast (v := (40 : Int32)) hx hb hK.1.1 hP hS (by omega) (by omega) 0 (gi_3) rfl (cl_of_nI (i := f) rfl (by omega)) (vp_in_of_nI (i := f) rfl (by omega) (by omega)) dX2_init_117 (fun H locs hP hS => ?_)
              refine lv_iinc (v := (nI (f + 1))) (lv' := [(1, .int (nI (f + 1))), (0, .ref g)]) hx hb dX2_init_118 hl (k := 0) rfl (nI_1 _) (by decide) rfl (fun ls hl => ?_)
              refine lv_goto (tgt := 105) hx hb dX2_init_121 (by decide) ?_
              rw [gi_cap] at hP
              exact ih105 (f + 1) _ _ _ (by omega) (lv_sub hl [0, 1] rfl) hP hS
          exact hloop105 3 0 _ _ _ (by omega) (lv_sub hl [0, 1] rfl) hP hS
        | succ nw_r ih78 =>
          intro nw H locs ls hk78 hl hP hS
          refine lv_iload_n hx hb dX2_init_78 rfl (lv_at hl 0 rfl) ?_
          refine lv_bipush (v := 6) hx hb dX2_init_79 (by decide) ?_
          refine lv_icmp_ge (tgt := 103) hx hb dX2_init_81 (by decide) (fun c => absurd ((br_le (show (6 : Int32) = nI 6 from rfl) (show (nI nw) = nI nw from rfl) (by omega) (by omega)).mp c) (by omega)) (fun _ => ?_)
          refine lv_aload_n hx hb dX2_init_84 rfl (lv_at hl 1 rfl) ?_
          refine x_get (ref := RX2) (C := RX2) (T := TX2) (N := 12) (ci := 2) (v := .ref (g + 2)) hx hb hts iX2 hown hK.1.1 hP (by omega) (by omega) (gi_0) rfl 1 (by decide) (hts (.fieldLink RX2 19 "PoreField$Ground" "wells" "[LPoreField$Well;") (by decide +kernel)) (fun _ h9 => h9) rfl dX2_init_85 ?_
          refine lv_iload_n hx hb dX2_init_88 rfl (lv_at hl 0 rfl) ?_
          refine n_new (C := RX4) (T := TX4) (N := 5) (ci := 4) (fs := [.int 0, .int 0, .int 0, .int 0, .null]) (q0 := (g + (37 + 2 * nw))) hx hb hts iX4 tyX4 tyX4_ok hown (hts (.classLink RX2 17 RX4) (by decide +kernel)) (hts (.instantiable RX4 5) (by decide +kernel)) (hts (.initialized RX4) (by decide +kernel)) hK.1.1 hP hS (by omega) (by omega) (by omega) rfl (fun j hj => by rcases (by omega : j = 0 ∨ j = 1 ∨ j = 2 ∨ j = 3 ∨ j = 4) with rfl | rfl | rfl | rfl | rfl <;> rfl) (by show _ ≤ 48; omega) (by show _ ≤ 188; omega) dX2_init_89 (fun H hP hS => ?_)
          refine lv_dup hx hb dX2_init_92 rfl ?_
          refine x_sz (by omega) hP (fun hzH => ?_)
          refine x_callv (va_runIN (As := []) (rest := [.ref (g + (37 + 2 * nw)), .int (nI nw), .ref (g + 2)]) ⟨hx, hb, hml, hown, hts⟩ (c_X4_init l D cy lo (n + (36 + 2 * nw) + 1) (gi cy w g 16 nw (fun _ => 0)) (g + (37 + 2 * nw)) (by omega) (by omega)) ⟨va_cnB 0 hts ggX2_init_X4_init rfl rfl rfl hK.2.1.2.1 (hts (.initialized RX4) (by decide +kernel)) (by decide +kernel) ⟨Nat.le_of_ble_eq_true rfl, Nat.le_of_ble_eq_true rfl⟩, rfl, hts (.instanceMethod yX4_init) (by decide +kernel)⟩ (preSN hzH hP hK) rfl rfl hl.1 rfl (lv_room (Nat.le_of_ble_eq_true rfl)) dX2_init_93 ⟨by show _ ≤ 48; omega, by show _ ≤ 188; omega⟩) hS (fun H locs hP hS => ?_)
          refine x_aastq (r := (RX4, TX4, 5)) hx hb hK.1.1 hP hS (by omega) (by omega) (by omega) (by omega) 2 4 (((xu_ne (by omega)).trans ((xu_ne (by omega)).trans (gi_2)))) rfl (((xu_ne (by omega)).trans (xu_same _ _ _))) rfl (cl_of_nI (i := nw) rfl (by omega)) (vp_in_of_nI (i := nw) rfl (by omega) (by omega)) dX2_init_96 (fun H locs hP hS => ?_)
          refine lv_iinc (v := (nI (nw + 1))) (lv' := [(1, .int (nI (nw + 1))), (0, .ref g)]) hx hb dX2_init_97 hl (k := 0) rfl (nI_1 _) (by decide) rfl (fun ls hl => ?_)
          refine lv_goto (tgt := 78) hx hb dX2_init_100 (by decide) ?_
          rw [gi_well (by omega)] at hP
          have h9 := ih78 (nw + 1) H locs ls (by omega) (lv_sub hl [0, 1] rfl) (by rw [show n + (36 + 2 * (nw + 1)) = ((n + (36 + 2 * nw) + 1) + 1) by omega]; exact hP) hS
          rw [show 36 + 2 * (nw + 1) = (((36 + 2 * nw) + 1) + 1) by omega, show 140 + 8 * (nw + 1) = (((140 + 8 * nw) + 5) + 3) by omega] at h9
          exact h9
      exact hloop78 6 0 _ _ _ (by omega) (lv_sub hl [0, 1] rfl) hP hS
    | succ nc_r ih51 =>
      intro nc H locs ls hk51 hl hP hS
      refine lv_iload_n hx hb dX2_init_51 rfl (lv_at hl 0 rfl) ?_
      refine lv_bipush (v := 16) hx hb dX2_init_52 (by decide) ?_
      refine lv_icmp_ge (tgt := 76) hx hb dX2_init_54 (by decide) (fun c => absurd ((br_le (show (16 : Int32) = nI 16 from rfl) (show (nI nc) = nI nc from rfl) (by omega) (by omega)).mp c) (by omega)) (fun _ => ?_)
      refine lv_aload_n hx hb dX2_init_57 rfl (lv_at hl 1 rfl) ?_
      refine x_get (ref := RX2) (C := RX2) (T := TX2) (N := 12) (ci := 2) (v := .ref (g + 1)) hx hb hts iX2 hown hK.1.1 hP (by omega) (by omega) (gi_0) rfl 0 (by decide) (hts (.fieldLink RX2 11 "PoreField$Ground" "cells" "[LPoreField$Cell;") (by decide +kernel)) (fun _ h9 => h9) rfl dX2_init_58 ?_
      refine lv_iload_n hx hb dX2_init_61 rfl (lv_at hl 0 rfl) ?_
      refine n_new (C := RX1) (T := TX1) (N := 4) (ci := 1) (fs := [.int 0, .null, .int 0, .int 0]) (q0 := (g + (5 + 2 * nc))) hx hb hts iX1 tyX1 tyX1_ok hown (hts (.classLink RX2 9 RX1) (by decide +kernel)) (hts (.instantiable RX1 4) (by decide +kernel)) (hts (.initialized RX1) (by decide +kernel)) hK.1.1 hP hS (by omega) (by omega) (by omega) rfl (fun j hj => by rcases (by omega : j = 0 ∨ j = 1 ∨ j = 2 ∨ j = 3) with rfl | rfl | rfl | rfl <;> rfl) (by show _ ≤ 48; omega) (by show _ ≤ 188; omega) dX2_init_62 (fun H hP hS => ?_)
      refine lv_dup hx hb dX2_init_65 rfl ?_
      refine x_sz (by omega) hP (fun hzH => ?_)
      refine x_callv (va_runIN (As := []) (rest := [.ref (g + (5 + 2 * nc)), .int (nI nc), .ref (g + 1)]) ⟨hx, hb, hml, hown, hts⟩ (c_X1_init l D cy lo (n + (4 + 2 * nc) + 1) (gi cy w g nc 0 (fun _ => 0)) (g + (5 + 2 * nc)) (by omega) (by omega)) ⟨va_cnB 0 hts ggX2_init_X1_init rfl rfl rfl hK.2.1.1 (hts (.initialized RX1) (by decide +kernel)) (by decide +kernel) ⟨Nat.le_of_ble_eq_true rfl, Nat.le_of_ble_eq_true rfl⟩, rfl, hts (.instanceMethod yX1_init) (by decide +kernel)⟩ (preSN hzH hP hK) rfl rfl hl.1 rfl (lv_room (Nat.le_of_ble_eq_true rfl)) dX2_init_66 ⟨by show _ ≤ 48; omega, by show _ ≤ 188; omega⟩) hS (fun H locs hP hS => ?_)
      refine x_aastq (r := (RX1, TX1, 4)) hx hb hK.1.1 hP hS (by omega) (by omega) (by omega) (by omega) 1 1 (((xu_ne (by omega)).trans ((xu_ne (by omega)).trans (gi_1)))) rfl (((xu_ne (by omega)).trans (xu_same _ _ _))) rfl (cl_of_nI (i := nc) rfl (by omega)) (vp_in_of_nI (i := nc) rfl (by omega) (by omega)) dX2_init_69 (fun H locs hP hS => ?_)
      refine lv_iinc (v := (nI (nc + 1))) (lv' := [(1, .int (nI (nc + 1))), (0, .ref g)]) hx hb dX2_init_70 hl (k := 0) rfl (nI_1 _) (by decide) rfl (fun ls hl => ?_)
      refine lv_goto (tgt := 51) hx hb dX2_init_73 (by decide) ?_
      rw [gi_cell (by omega)] at hP
      have h9 := ih51 (nc + 1) H locs ls (by omega) (lv_sub hl [0, 1] rfl) (by rw [show n + (4 + 2 * (nc + 1)) = ((n + (4 + 2 * nc) + 1) + 1) by omega]; exact hP) hS
      rw [show 4 + 2 * (nc + 1) = (((4 + 2 * nc) + 1) + 1) by omega, show 28 + 7 * (nc + 1) = (((28 + 7 * nc) + 4) + 3) by omega] at h9
      exact h9
  have hE : (va_up (va_up (va_up (va_up (va_up (va_up (va_up (va_up (va_up (va_up (va_up w g (.inr (2, [.null, .null, .int 0, .null, .int 0, .int 0, .int 0, .null, .int 0, .int 0, .int 0, .int 0]))) (g + 1) (.inl (cy 1, 16, .inr (.inr (.inr (.inr (fun _ => none))))))) g (.inr (2, [.ref (g + 1), .null, .int 0, .null, .int 0, .int 0, .int 0, .null, .int 0, .int 0, .int 0, .int 0]))) (g + 2) (.inl (cy 2, 6, .inr (.inr (.inr (.inr (fun _ => none))))))) g (.inr (2, [.ref (g + 1), .ref (g + 2), .int 0, .null, .int 0, .int 0, .int 0, .null, .int 0, .int 0, .int 0, .int 0]))) (g + 3) (.inl (cy 0, 3, .inl (fun _ => 0)))) g (.inr (2, [.ref (g + 1), .ref (g + 2), .int 0, .ref (g + 3), .int 0, .int 0, .int 0, .null, .int 0, .int 0, .int 0, .int 0]))) g (.inr (2, [.ref (g + 1), .ref (g + 2), .int 0, .ref (g + 3), .int (10 : Int32), .int 0, .int 0, .null, .int 0, .int 0, .int 0, .int 0]))) g (.inr (2, [.ref (g + 1), .ref (g + 2), .int 0, .ref (g + 3), .int (10 : Int32), .int (300 : Int32), .int 0, .null, .int 0, .int 0, .int 0, .int 0]))) (g + 4) (.inl (cy 0, 3, .inl (fun _ => 0)))) g (.inr (2, [.ref (g + 1), .ref (g + 2), .int 0, .ref (g + 3), .int (10 : Int32), .int (300 : Int32), .int 0, .ref (g + 4), .int 0, .int 0, .int 0, .int 0]))) = gi cy w g 0 0 (fun _ => 0) := by
    refine gi_ext (fun q hq => ?_) (fun k hk => ?_)
    · rw [xu_ne (by omega), xu_ne (by omega), xu_ne (by omega), xu_ne (by omega), xu_ne (by omega), xu_ne (by omega), xu_ne (by omega), xu_ne (by omega), xu_ne (by omega), xu_ne (by omega), xu_ne (by omega)]
    · rcases (by omega : k = 0 ∨ k = 1 ∨ k = 2 ∨ k = 3 ∨ k = 4) with rfl | rfl | rfl | rfl | rfl
      · refine Eq.trans (xu_same _ _ _) ?_
        unfold giE
        simp
      · refine Eq.trans (((xu_ne (by omega)).trans ((xu_ne (by omega)).trans ((xu_ne (by omega)).trans ((xu_ne (by omega)).trans ((xu_ne (by omega)).trans ((xu_ne (by omega)).trans ((xu_ne (by omega)).trans ((xu_ne (by omega)).trans ((xu_ne (by omega)).trans (xu_same _ _ _))))))))))) ?_
        unfold giE
        simp
      · refine Eq.trans (((xu_ne (by omega)).trans ((xu_ne (by omega)).trans ((xu_ne (by omega)).trans ((xu_ne (by omega)).trans ((xu_ne (by omega)).trans ((xu_ne (by omega)).trans ((xu_ne (by omega)).trans (xu_same _ _ _))))))))) ?_
        unfold giE
        simp
      · refine Eq.trans (((xu_ne (by omega)).trans ((xu_ne (by omega)).trans ((xu_ne (by omega)).trans ((xu_ne (by omega)).trans ((xu_ne (by omega)).trans (xu_same _ _ _))))))) ?_
        unfold giE
        simp
      · refine Eq.trans (((xu_ne (by omega)).trans (xu_same _ _ _))) ?_
        unfold giE
        simp
  have hP : va_P D vwCl (rl lo ((((n + 1) + 1) + 1) + 1) (va_up (va_up (va_up (va_up (va_up (va_up (va_up (va_up (va_up (va_up (va_up w g (.inr (2, [.null, .null, .int 0, .null, .int 0, .int 0, .int 0, .null, .int 0, .int 0, .int 0, .int 0]))) (g + 1) (.inl (cy 1, 16, .inr (.inr (.inr (.inr (fun _ => none))))))) g (.inr (2, [.ref (g + 1), .null, .int 0, .null, .int 0, .int 0, .int 0, .null, .int 0, .int 0, .int 0, .int 0]))) (g + 2) (.inl (cy 2, 6, .inr (.inr (.inr (.inr (fun _ => none))))))) g (.inr (2, [.ref (g + 1), .ref (g + 2), .int 0, .null, .int 0, .int 0, .int 0, .null, .int 0, .int 0, .int 0, .int 0]))) (g + 3) (.inl (cy 0, 3, .inl (fun _ => 0)))) g (.inr (2, [.ref (g + 1), .ref (g + 2), .int 0, .ref (g + 3), .int 0, .int 0, .int 0, .null, .int 0, .int 0, .int 0, .int 0]))) g (.inr (2, [.ref (g + 1), .ref (g + 2), .int 0, .ref (g + 3), .int (10 : Int32), .int 0, .int 0, .null, .int 0, .int 0, .int 0, .int 0]))) g (.inr (2, [.ref (g + 1), .ref (g + 2), .int 0, .ref (g + 3), .int (10 : Int32), .int (300 : Int32), .int 0, .null, .int 0, .int 0, .int 0, .int 0]))) (g + 4) (.inl (cy 0, 3, .inl (fun _ => 0)))) g (.inr (2, [.ref (g + 1), .ref (g + 2), .int 0, .ref (g + 3), .int (10 : Int32), .int (300 : Int32), .int 0, .ref (g + 4), .int 0, .int 0, .int 0, .int 0])))) H := hP
  rw [hE] at hP
  exact hloop51 16 0 _ _ _ (by omega) (lv_sub hl [0, 1] rfl) hP hS
