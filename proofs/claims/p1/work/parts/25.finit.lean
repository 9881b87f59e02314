/-! the reckoner's field: made -/
theorem up_id {α : Type} {w : Nat → α} {a : Nat} {e : α} (h : w a = e) : va_up w a e = w := by
  funext b
  by_cases hb : b = a
  · subst hb
    rw [xu_same, h]
  · exact xu_ne hb
set_option maxRecDepth 100000 in
set_option maxHeartbeats 1000000 in
/-- <init> of the reckoner's field -/
theorem c_X7_init (l : Launch) (D : va_G) (cy : Nat → ClassId) (lo n : Nat) (w : Nat → va_E) (f : Nat) (h1 : lo ≤ f) (h2 : f + 1 = lo + n) : Met l yX7_init wsX7_init ({ frames := 1, cells := 15, slots := 201, locals := 30 }) (PcN D cy lo n (va_up w f (.inr (7, [.null, .null, .null, .null, .null, .null, .null, .null, .null, .int 0, .int 0, .int 0, .int 0, .int 0]))) [.ref f]) (va_Qv (fun (u : Nat → va_E) => FM cy u f 0 300 ∧ ∀ a, a < f → u a = w a) (fun u tE => va_P D vwCl (rl lo (n + 15) u) tE.heap ∧ tE.heap.size = lo + (n + 15)) (fun q : Nat => lo ≤ q)) 15 201 (fun q : Nat => lo ≤ q) := by
  refine Met.ofW (cc := cX7_init) (maxL := 2) (ret := none) (by decide) rfl ?_
  intro p e s m args below meth c s₁ B hml hv
  obtain ⟨rfl, hsz, hP, hK, hS⟩ := n_entry hv
  have hx := B.exec
  have hb := B.bytes
  have hr := B.returns
  have hts := atoms_spec (ws := wsX7_init) B.pre
  have hown : s.vm.findClass RX7 = some m.cls := findClass_of_methodNamed B.named
  have hlocks := B.notSynchronized
  have hin2 : meth.name = "<init>" := (name_of_methodNamed B.named B.method).1
  have iX7 : ∀ w ∈ u_ws RX7 TX7 14, w ∈ wsX7_init := by decide +kernel
  have hl := lv_entry ([.ref f]) (n := 2) (Nat.le_of_ble_eq_true rfl)
  rw [lg_entry_eq]
  generalize (lg_sl ([.ref f]) ++ List.replicate (2 - (lg_sl ([.ref f])).length) Slot.unset).toArray = ls at hl ⊢
  have hl : lv_has ls 2 [(0, .ref f)] := hl
  have hAi : AOA .int s := hK.1.2.2
  have harr : (Cond.arrayClass (newarray.typeOf .int)).before (([.ref f] : List Value).toArray) s = true := hts (.arrayClass .int) (by decide +kernel)
  have harrz : (Cond.arrayClass (newarray.typeOf .boolean)).before (([.ref f] : List Value).toArray) s = true := hts (.arrayClass .boolean) (by decide +kernel)
  have hK6 : s.vm.findClass ("[" ++ (FieldType.array .int).toString) = some (cy 6) := (hK.1.1.2 6 _ rfl).2
  have hK0 : s.vm.findClass (FieldType.array .int).toString = some (cy 0) := (hK.1.1.2 0 _ rfl).2
  have hs : va_up w f (.inr (7, [.null, .null, .null, .null, .null, .null, .null, .null, .null, .int 0, .int 0, .int 0, .int 0, .int 0])) f = .inr (7, [.null, .null, .null, .null, .null, .null, .null, .null, .null, .int 0, .int 0, .int 0, .int 0, .int 0]) := xu_same _ _ _
  have hlow : ∀ a, a < f → va_up w f (.inr (7, [.null, .null, .null, .null, .null, .null, .null, .null, .null, .int 0, .int 0, .int 0, .int 0, .int 0])) a = w a := fun a ha => xu_ne (by omega)
  refine lv_aload_n hx hb dX7_init_0 rfl (lv_at hl 0 rfl) ?_
  refine W.objInit hx hb hown (hts (.methodLink RX7 3 objectInit) (by decide +kernel)) (hts (.instanceMethod objectInit) (by decide +kernel)) (hts (.code objectInit ⟨#[0xb1]⟩ 1 none) (by decide +kernel)) rfl (by rw [hml]; exact hl.1) rfl dX7_init_1 (Nat.le_of_ble_eq_true rfl) (Nat.le_of_ble_eq_true rfl) ?_
  refine lv_aload_n hx hb dX7_init_4 rfl (lv_at hl 0 rfl) ?_
  refine lv_bipush (v := 16) hx hb dX7_init_5 (by decide) ?_
  refine n_newi (q0 := (f + 1)) (N := 16) hx hb harr hK.1.1 hP hS (by omega) (by omega) (by omega) 0 rfl (by decide) (by decide) (by omega) (by show _ ≤ 15; omega) (by show _ ≤ 201; omega) dX7_init_7 (fun H hP hS => ?_)
  refine x_gen hP (fun v1 e1 hP => ?_)
  have hs : v1 f = .inr (7, [.null, .null, .null, .null, .null, .null, .null, .null, .null, .int 0, .int 0, .int 0, .int 0, .int 0]) := by rw [e1]; exact (xu_ne (by omega)).trans hs
  have hro : v1 (f + 1) = .inl (cy 0, 16, .inl (fun _ => 0)) := by rw [e1]; exact xu_same _ _ _
  have hlow : ∀ a, a < f → v1 a = w a := fun a ha => by rw [e1]; exact (xu_ne (by omega)).trans (hlow a ha)
  refine x_putF (ty := tyX7 0) (ref := RX7) (C := RX7) (T := TX7) (N := 14) (ci := 7) (v := .ref (f + 1)) hx hb hts iX7 tyX7 tyX7_ok nmX7 hown hK.1.1 hP hS (by omega) (by omega) hs rfl 0 (by decide) (hts (.fieldLink RX7 9 "PoreFieldModel$Field" "room" "[I") (by decide +kernel)) (fun _ h9 => h9) rfl hin2 rfl (by decide +kernel) rfl rfl (Nat.le_of_ble_eq_true rfl) dX7_init_9 (fun H locs hP hS => ?_)
  refine x_gen hP (fun v2 e2 hP => ?_)
  have hro : v2 (f + 1) = .inl (cy 0, 16, .inl (fun _ => 0)) := by rw [e2]; exact (xu_ne (by omega)).trans hro
  have hs : v2 f = .inr (7, [.ref (f + 1), .null, .null, .null, .null, .null, .null, .null, .null, .int (0 : Int32), .int (0 : Int32), .int (0 : Int32), .int (0 : Int32), .int (0 : Int32)]) := by rw [e2]; exact xu_same _ _ _
  have hlow : ∀ a, a < f → v2 a = w a := fun a ha => by rw [e2]; exact (xu_ne (by omega)).trans (hlow a ha)
  refine lv_aload_n hx hb dX7_init_12 rfl (lv_at hl 0 rfl) ?_
  refine lv_bipush (v := 48) hx hb dX7_init_13 (by decide) ?_
  refine n_newi (q0 := (f + 2)) (N := 48) hx hb harr hK.1.1 hP hS (by omega) (by omega) (by omega) 0 rfl (by decide) (by decide) (by omega) (by show _ ≤ 15; omega) (by show _ ≤ 201; omega) dX7_init_15 (fun H hP hS => ?_)
  refine x_gen hP (fun v3 e3 hP => ?_)
  have hs : v3 f = .inr (7, [.ref (f + 1), .null, .null, .null, .null, .null, .null, .null, .null, .int (0 : Int32), .int (0 : Int32), .int (0 : Int32), .int (0 : Int32), .int (0 : Int32)]) := by rw [e3]; exact (xu_ne (by omega)).trans hs
  have hro : v3 (f + 1) = .inl (cy 0, 16, .inl (fun _ => 0)) := by rw [e3]; exact (xu_ne (by omega)).trans hro
  have hha : v3 (f + 2) = .inl (cy 0, 48, .inl (fun _ => 0)) := by rw [e3]; exact xu_same _ _ _
  have hlow : ∀ a, a < f → v3 a = w a := fun a ha => by rw [e3]; exact (xu_ne (by omega)).trans (hlow a ha)
  refine x_putF (ty := tyX7 1) (ref := RX7) (C := RX7) (T := TX7) (N := 14) (ci := 7) (v := .ref (f + 2)) hx hb hts iX7 tyX7 tyX7_ok nmX7 hown hK.1.1 hP hS (by omega) (by omega) hs rfl 1 (by decide) (hts (.fieldLink RX7 15 "PoreFieldModel$Field" "has" "[I") (by decide +kernel)) (fun _ h9 => h9) rfl hin2 rfl (by decide +kernel) rfl rfl (Nat.le_of_ble_eq_true rfl) dX7_init_17 (fun H locs hP hS => ?_)
  refine x_gen hP (fun v4 e4 hP => ?_)
  have hro : v4 (f + 1) = .inl (cy 0, 16, .inl (fun _ => 0)) := by rw [e4]; exact (xu_ne (by omega)).trans hro
  have hha : v4 (f + 2) = .inl (cy 0, 48, .inl (fun _ => 0)) := by rw [e4]; exact (xu_ne (by omega)).trans hha
  have hs : v4 f = .inr (7, [.ref (f + 1), .ref (f + 2), .null, .null, .null, .null, .null, .null, .null, .int (0 : Int32), .int (0 : Int32), .int (0 : Int32), .int (0 : Int32), .int (0 : Int32)]) := by rw [e4]; exact xu_same _ _ _
  have hlow : ∀ a, a < f → v4 a = w a := fun a ha => by rw [e4]; exact (xu_ne (by omega)).trans (hlow a ha)
  refine lv_aload_n hx hb dX7_init_20 rfl (lv_at hl 0 rfl) ?_
  refine lv_bipush (v := 16) hx hb dX7_init_21 (by decide) ?_
  have ea : lo + (n + 1 + 1) = f + 3 := by omega
  refine x_newz hx hb harrz hK.1.1 hP hS (by omega) (by omega) (N := 16) 5 rfl (by decide) (by decide) (by omega) (by show _ ≤ 15; omega) (by show _ ≤ 201; omega) dX7_init_23 (fun H hP hS => ?_)
  rw [ea] at hP ⊢
  refine x_gen hP (fun v5 e5 hP => ?_)
  have hs : v5 f = .inr (7, [.ref (f + 1), .ref (f + 2), .null, .null, .null, .null, .null, .null, .null, .int (0 : Int32), .int (0 : Int32), .int (0 : Int32), .int (0 : Int32), .int (0 : Int32)]) := by rw [e5]; exact (xu_ne (by omega)).trans hs
  have hro : v5 (f + 1) = .inl (cy 0, 16, .inl (fun _ => 0)) := by rw [e5]; exact (xu_ne (by omega)).trans hro
  have hha : v5 (f + 2) = .inl (cy 0, 48, .inl (fun _ => 0)) := by rw [e5]; exact (xu_ne (by omega)).trans hha
  have hea : v5 (f + 3) = .inl (cy 5, 16, .inl (fun _ => 0)) := by rw [e5]; exact xu_same _ _ _
  have hlow : ∀ a, a < f → v5 a = w a := fun a ha => by rw [e5]; exact (xu_ne (by omega)).trans (hlow a ha)
  refine x_putF (ty := tyX7 2) (ref := RX7) (C := RX7) (T := TX7) (N := 14) (ci := 7) (v := .ref (f + 3)) hx hb hts iX7 tyX7 tyX7_ok nmX7 hown hK.1.1 hP hS (by omega) (by omega) hs rfl 2 (by decide) (hts (.fieldLink RX7 18 "PoreFieldModel$Field" "east" "[Z") (by decide +kernel)) (fun _ h9 => h9) rfl hin2 rfl (by decide +kernel) rfl rfl (Nat.le_of_ble_eq_true rfl) dX7_init_25 (fun H locs hP hS => ?_)
  refine x_gen hP (fun v6 e6 hP => ?_)
  have hro : v6 (f + 1) = .inl (cy 0, 16, .inl (fun _ => 0)) := by rw [e6]; exact (xu_ne (by omega)).trans hro
  have hha : v6 (f + 2) = .inl (cy 0, 48, .inl (fun _ => 0)) := by rw [e6]; exact (xu_ne (by omega)).trans hha
  have hea : v6 (f + 3) = .inl (cy 5, 16, .inl (fun _ => 0)) := by rw [e6]; exact (xu_ne (by omega)).trans hea
  have hs : v6 f = .inr (7, [.ref (f + 1), .ref (f + 2), .ref (f + 3), .null, .null, .null, .null, .null, .null, .int (0 : Int32), .int (0 : Int32), .int (0 : Int32), .int (0 : Int32), .int (0 : Int32)]) := by rw [e6]; exact xu_same _ _ _
  have hlow : ∀ a, a < f → v6 a = w a := fun a ha => by rw [e6]; exact (xu_ne (by omega)).trans (hlow a ha)
  refine lv_aload_n hx hb dX7_init_28 rfl (lv_at hl 0 rfl) ?_
  refine lv_bipush (v := 16) hx hb dX7_init_29 (by decide) ?_
  have ea : lo + (n + 1 + 1 + 1) = f + 4 := by omega
  refine x_newz hx hb harrz hK.1.1 hP hS (by omega) (by omega) (N := 16) 5 rfl (by decide) (by decide) (by omega) (by show _ ≤ 15; omega) (by show _ ≤ 201; omega) dX7_init_31 (fun H hP hS => ?_)
  rw [ea] at hP ⊢
  refine x_gen hP (fun v7 e7 hP => ?_)
  have hs : v7 f = .inr (7, [.ref (f + 1), .ref (f + 2), .ref (f + 3), .null, .null, .null, .null, .null, .null, .int (0 : Int32), .int (0 : Int32), .int (0 : Int32), .int (0 : Int32), .int (0 : Int32)]) := by rw [e7]; exact (xu_ne (by omega)).trans hs
  have hro : v7 (f + 1) = .inl (cy 0, 16, .inl (fun _ => 0)) := by rw [e7]; exact (xu_ne (by omega)).trans hro
  have hha : v7 (f + 2) = .inl (cy 0, 48, .inl (fun _ => 0)) := by rw [e7]; exact (xu_ne (by omega)).trans hha
  have hea : v7 (f + 3) = .inl (cy 5, 16, .inl (fun _ => 0)) := by rw [e7]; exact (xu_ne (by omega)).trans hea
  have hso : v7 (f + 4) = .inl (cy 5, 16, .inl (fun _ => 0)) := by rw [e7]; exact xu_same _ _ _
  have hlow : ∀ a, a < f → v7 a = w a := fun a ha => by rw [e7]; exact (xu_ne (by omega)).trans (hlow a ha)
  refine x_putF (ty := tyX7 3) (ref := RX7) (C := RX7) (T := TX7) (N := 14) (ci := 7) (v := .ref (f + 4)) hx hb hts iX7 tyX7 tyX7_ok nmX7 hown hK.1.1 hP hS (by omega) (by omega) hs rfl 3 (by decide) (hts (.fieldLink RX7 22 "PoreFieldModel$Field" "south" "[Z") (by decide +kernel)) (fun _ h9 => h9) rfl hin2 rfl (by decide +kernel) rfl rfl (Nat.le_of_ble_eq_true rfl) dX7_init_33 (fun H locs hP hS => ?_)
  refine x_gen hP (fun v8 e8 hP => ?_)
  have hro : v8 (f + 1) = .inl (cy 0, 16, .inl (fun _ => 0)) := by rw [e8]; exact (xu_ne (by omega)).trans hro
  have hha : v8 (f + 2) = .inl (cy 0, 48, .inl (fun _ => 0)) := by rw [e8]; exact (xu_ne (by omega)).trans hha
  have hea : v8 (f + 3) = .inl (cy 5, 16, .inl (fun _ => 0)) := by rw [e8]; exact (xu_ne (by omega)).trans hea
  have hso : v8 (f + 4) = .inl (cy 5, 16, .inl (fun _ => 0)) := by rw [e8]; exact (xu_ne (by omega)).trans hso
  have hs : v8 f = .inr (7, [.ref (f + 1), .ref (f + 2), .ref (f + 3), .ref (f + 4), .null, .null, .null, .null, .null, .int (0 : Int32), .int (0 : Int32), .int (0 : Int32), .int (0 : Int32), .int (0 : Int32)]) := by rw [e8]; exact xu_same _ _ _
  have hlow : ∀ a, a < f → v8 a = w a := fun a ha => by rw [e8]; exact (xu_ne (by omega)).trans (hlow a ha)
  refine lv_aload_n hx hb dX7_init_36 rfl (lv_at hl 0 rfl) ?_
  refine lv_bipush (v := 6) hx hb dX7_init_37 (by decide) ?_
  refine lv_bipush (v := 14) hx hb dX7_init_39 (by decide) ?_
  have ea : lo + (n + 1 + 1 + 1 + 1) = f + 5 := by omega
  refine x_mna (ty := .int) hx hb hown (hts (.classLink RX7 25 "[[I") (by decide +kernel)) hAi (hts (.arrayClass .int) (by decide +kernel)) hK.1.1 hP hS (by omega) (by omega) 6 0 (cA := cy 6) (c0 := cy 0) rfl hK6 hK0 (N := 6) (K := 14) (by decide) (by decide) rfl rfl (by omega) (by decide) (by omega) rfl rfl (by show _ ≤ 15; omega) (by show _ ≤ 201; omega) (fun c9 => by first | rfl | exact rfl) dX7_init_41 (fun H hP hS => ?_)
  rw [ea] at hP ⊢
  refine x_gen hP (fun v9 e9 hP => ?_)
  have hs : v9 f = .inr (7, [.ref (f + 1), .ref (f + 2), .ref (f + 3), .ref (f + 4), .null, .null, .null, .null, .null, .int (0 : Int32), .int (0 : Int32), .int (0 : Int32), .int (0 : Int32), .int (0 : Int32)]) := by rw [e9]; exact (mnw_o (by omega)).trans hs
  have hro : v9 (f + 1) = .inl (cy 0, 16, .inl (fun _ => 0)) := by rw [e9]; exact (mnw_o (by omega)).trans hro
  have hha : v9 (f + 2) = .inl (cy 0, 48, .inl (fun _ => 0)) := by rw [e9]; exact (mnw_o (by omega)).trans hha
  have hea : v9 (f + 3) = .inl (cy 5, 16, .inl (fun _ => 0)) := by rw [e9]; exact (mnw_o (by omega)).trans hea
  have hso : v9 (f + 4) = .inl (cy 5, 16, .inl (fun _ => 0)) := by rw [e9]; exact (mnw_o (by omega)).trans hso
  have hwe : v9 (f + 5) = .inl (cy 6, 6, .inr (.inr (.inr (.inr fun i => if i < 6 then some (f + 5 + 1 + i) else none)))) := by rw [e9]; exact mnw_q
  have hrw : ∀ i, i < 6 → v9 (f + 5 + 1 + i) = .inl (cy 0, 14, .inl (fun _ => 0)) := fun i hi => by rw [e9]; exact mnw_r hi
  have hlow : ∀ a, a < f → v9 a = w a := fun a ha => by rw [e9]; exact (mnw_o (by omega)).trans (hlow a ha)
  refine x_putF (ty := tyX7 4) (ref := RX7) (C := RX7) (T := TX7) (N := 14) (ci := 7) (v := .ref (f + 5)) hx hb hts iX7 tyX7 tyX7_ok nmX7 hown hK.1.1 hP hS (by omega) (by omega) hs rfl 4 (by decide) (hts (.fieldLink RX7 27 "PoreFieldModel$Field" "wells" "[[I") (by decide +kernel)) (fun _ h9 => h9) rfl hin2 rfl (by decide +kernel) rfl rfl (Nat.le_of_ble_eq_true rfl) dX7_init_45 (fun H locs hP hS => ?_)
  refine x_gen hP (fun v10 e10 hP => ?_)
  have hro : v10 (f + 1) = .inl (cy 0, 16, .inl (fun _ => 0)) := by rw [e10]; exact (xu_ne (by omega)).trans hro
  have hha : v10 (f + 2) = .inl (cy 0, 48, .inl (fun _ => 0)) := by rw [e10]; exact (xu_ne (by omega)).trans hha
  have hea : v10 (f + 3) = .inl (cy 5, 16, .inl (fun _ => 0)) := by rw [e10]; exact (xu_ne (by omega)).trans hea
  have hso : v10 (f + 4) = .inl (cy 5, 16, .inl (fun _ => 0)) := by rw [e10]; exact (xu_ne (by omega)).trans hso
  have hwe : v10 (f + 5) = .inl (cy 6, 6, .inr (.inr (.inr (.inr fun i => if i < 6 then some (f + 5 + 1 + i) else none)))) := by rw [e10]; exact (xu_ne (by omega)).trans hwe
  have hs : v10 f = .inr (7, [.ref (f + 1), .ref (f + 2), .ref (f + 3), .ref (f + 4), .ref (f + 5), .null, .null, .null, .null, .int (0 : Int32), .int (0 : Int32), .int (0 : Int32), .int (0 : Int32), .int (0 : Int32)]) := by rw [e10]; exact xu_same _ _ _
  have hrw : ∀ i, i < 6 → v10 (f + 5 + 1 + i) = .inl (cy 0, 14, .inl (fun _ => 0)) := fun i hi => by rw [e10]; exact (xu_ne (by omega)).trans (hrw i hi)
  have hlow : ∀ a, a < f → v10 a = w a := fun a ha => by rw [e10]; exact (xu_ne (by omega)).trans (hlow a ha)
  refine lv_aload_n hx hb dX7_init_48 rfl (lv_at hl 0 rfl) ?_
  refine lv_iconst (v := 3) hx hb dX7_init_49 (by decide) ?_
  refine n_newi (q0 := (f + 12)) (N := 3) hx hb harr hK.1.1 hP hS (by omega) (by omega) (by omega) 0 rfl (by decide) (by decide) (by omega) (by show _ ≤ 15; omega) (by show _ ≤ 201; omega) dX7_init_50 (fun H hP hS => ?_)
  refine x_gen hP (fun v11 e11 hP => ?_)
  have hs : v11 f = .inr (7, [.ref (f + 1), .ref (f + 2), .ref (f + 3), .ref (f + 4), .ref (f + 5), .null, .null, .null, .null, .int (0 : Int32), .int (0 : Int32), .int (0 : Int32), .int (0 : Int32), .int (0 : Int32)]) := by rw [e11]; exact (xu_ne (by omega)).trans hs
  have hro : v11 (f + 1) = .inl (cy 0, 16, .inl (fun _ => 0)) := by rw [e11]; exact (xu_ne (by omega)).trans hro
  have hha : v11 (f + 2) = .inl (cy 0, 48, .inl (fun _ => 0)) := by rw [e11]; exact (xu_ne (by omega)).trans hha
  have hea : v11 (f + 3) = .inl (cy 5, 16, .inl (fun _ => 0)) := by rw [e11]; exact (xu_ne (by omega)).trans hea
  have hso : v11 (f + 4) = .inl (cy 5, 16, .inl (fun _ => 0)) := by rw [e11]; exact (xu_ne (by omega)).trans hso
  have hwe : v11 (f + 5) = .inl (cy 6, 6, .inr (.inr (.inr (.inr fun i => if i < 6 then some (f + 5 + 1 + i) else none)))) := by rw [e11]; exact (xu_ne (by omega)).trans hwe
  have hca : v11 (f + 12) = .inl (cy 0, 3, .inl (fun _ => 0)) := by rw [e11]; exact xu_same _ _ _
  have hrw : ∀ i, i < 6 → v11 (f + 5 + 1 + i) = .inl (cy 0, 14, .inl (fun _ => 0)) := fun i hi => by rw [e11]; exact (xu_ne (by omega)).trans (hrw i hi)
  have hlow : ∀ a, a < f → v11 a = w a := fun a ha => by rw [e11]; exact (xu_ne (by omega)).trans (hlow a ha)
  refine lv_dup hx hb dX7_init_52 rfl ?_
  refine lv_iconst (v := 0) hx hb dX7_init_53 (by decide) ?_
  refine lv_bipush (v := 40) hx hb dX7_init_54 (by decide) ?_
  refine x_iast hx hb hK.1.1 hP hS (by omega) (by omega) 0 hca rfl (cl_of_nI (i := 0) rfl (by omega)) (vp_in_of_nI (i := 0) rfl (by omega) (by omega)) dX7_init_56 (fun H locs hP hS => ?_)
  refine x_gen hP (fun v12 e12 hP => ?_)
  have hs : v12 f = .inr (7, [.ref (f + 1), .ref (f + 2), .ref (f + 3), .ref (f + 4), .ref (f + 5), .null, .null, .null, .null, .int (0 : Int32), .int (0 : Int32), .int (0 : Int32), .int (0 : Int32), .int (0 : Int32)]) := by rw [e12]; exact (xu_ne (by omega)).trans hs
  have hro : v12 (f + 1) = .inl (cy 0, 16, .inl (fun _ => 0)) := by rw [e12]; exact (xu_ne (by omega)).trans hro
  have hha : v12 (f + 2) = .inl (cy 0, 48, .inl (fun _ => 0)) := by rw [e12]; exact (xu_ne (by omega)).trans hha
  have hea : v12 (f + 3) = .inl (cy 5, 16, .inl (fun _ => 0)) := by rw [e12]; exact (xu_ne (by omega)).trans hea
  have hso : v12 (f + 4) = .inl (cy 5, 16, .inl (fun _ => 0)) := by rw [e12]; exact (xu_ne (by omega)).trans hso
  have hwe : v12 (f + 5) = .inl (cy 6, 6, .inr (.inr (.inr (.inr fun i => if i < 6 then some (f + 5 + 1 + i) else none)))) := by rw [e12]; exact (xu_ne (by omega)).trans hwe
  have hca : v12 (f + 12) = .inl (cy 0, 3, .inl (upd (fun _ => 0) 0 (40 : Int32))) := by rw [e12]; exact xu_same _ _ _
  have hrw : ∀ i, i < 6 → v12 (f + 5 + 1 + i) = .inl (cy 0, 14, .inl (fun _ => 0)) := fun i hi => by rw [e12]; exact (xu_ne (by omega)).trans (hrw i hi)
  have hlow : ∀ a, a < f → v12 a = w a := fun a ha => by rw [e12]; exact (xu_ne (by omega)).trans (hlow a ha)
  refine lv_dup hx hb dX7_init_57 rfl ?_
  refine lv_iconst (v := 1) hx hb dX7_init_58 (by decide) ?_
  refine lv_bipush (v := 40) hx hb dX7_init_59 (by decide) ?_
  refine x_iast hx hb hK.1.1 hP hS (by omega) (by omega) 0 hca rfl (cl_of_nI (i := 1) rfl (by omega)) (vp_in_of_nI (i := 1) rfl (by omega) (by omega)) dX7_init_61 (fun H locs hP hS => ?_)
  refine x_gen hP (fun v13 e13 hP => ?_)
  have hs : v13 f = .inr (7, [.ref (f + 1), .ref (f + 2), .ref (f + 3), .ref (f + 4), .ref (f + 5), .null, .null, .null, .null, .int (0 : Int32), .int (0 : Int32), .int (0 : Int32), .int (0 : Int32), .int (0 : Int32)]) := by rw [e13]; exact (xu_ne (by omega)).trans hs
  have hro : v13 (f + 1) = .inl (cy 0, 16, .inl (fun _ => 0)) := by rw [e13]; exact (xu_ne (by omega)).trans hro
  have hha : v13 (f + 2) = .inl (cy 0, 48, .inl (fun _ => 0)) := by rw [e13]; exact (xu_ne (by omega)).trans hha
  have hea : v13 (f + 3) = .inl (cy 5, 16, .inl (fun _ => 0)) := by rw [e13]; exact (xu_ne (by omega)).trans hea
  have hso : v13 (f + 4) = .inl (cy 5, 16, .inl (fun _ => 0)) := by rw [e13]; exact (xu_ne (by omega)).trans hso
  have hwe : v13 (f + 5) = .inl (cy 6, 6, .inr (.inr (.inr (.inr fun i => if i < 6 then some (f + 5 + 1 + i) else none)))) := by rw [e13]; exact (xu_ne (by omega)).trans hwe
  have hca : v13 (f + 12) = .inl (cy 0, 3, .inl (upd (upd (fun _ => 0) 0 (40 : Int32)) 1 (40 : Int32))) := by rw [e13]; exact xu_same _ _ _
  have hrw : ∀ i, i < 6 → v13 (f + 5 + 1 + i) = .inl (cy 0, 14, .inl (fun _ => 0)) := fun i hi => by rw [e13]; exact (xu_ne (by omega)).trans (hrw i hi)
  have hlow : ∀ a, a < f → v13 a = w a := fun a ha => by rw [e13]; exact (xu_ne (by omega)).trans (hlow a ha)
  refine lv_dup hx hb dX7_init_62 rfl ?_
  refine lv_iconst (v := 2) hx hb dX7_init_63 (by decide) ?_
  refine lv_bipush (v := 40) hx hb dX7_init_64 (by decide) ?_
  refine x_iast hx hb hK.1.1 hP hS (by omega) (by omega) 0 hca rfl (cl_of_nI (i := 2) rfl (by omega)) (vp_in_of_nI (i := 2) rfl (by omega) (by omega)) dX7_init_66 (fun H locs hP hS => ?_)
  refine x_gen hP (fun v14 e14 hP => ?_)
  have hs : v14 f = .inr (7, [.ref (f + 1), .ref (f + 2), .ref (f + 3), .ref (f + 4), .ref (f + 5), .null, .null, .null, .null, .int (0 : Int32), .int (0 : Int32), .int (0 : Int32), .int (0 : Int32), .int (0 : Int32)]) := by rw [e14]; exact (xu_ne (by omega)).trans hs
  have hro : v14 (f + 1) = .inl (cy 0, 16, .inl (fun _ => 0)) := by rw [e14]; exact (xu_ne (by omega)).trans hro
  have hha : v14 (f + 2) = .inl (cy 0, 48, .inl (fun _ => 0)) := by rw [e14]; exact (xu_ne (by omega)).trans hha
  have hea : v14 (f + 3) = .inl (cy 5, 16, .inl (fun _ => 0)) := by rw [e14]; exact (xu_ne (by omega)).trans hea
  have hso : v14 (f + 4) = .inl (cy 5, 16, .inl (fun _ => 0)) := by rw [e14]; exact (xu_ne (by omega)).trans hso
  have hwe : v14 (f + 5) = .inl (cy 6, 6, .inr (.inr (.inr (.inr fun i => if i < 6 then some (f + 5 + 1 + i) else none)))) := by rw [e14]; exact (xu_ne (by omega)).trans hwe
  have hca : v14 (f + 12) = .inl (cy 0, 3, .inl (upd (upd (upd (fun _ => 0) 0 (40 : Int32)) 1 (40 : Int32)) 2 (40 : Int32))) := by rw [e14]; exact xu_same _ _ _
  have hrw : ∀ i, i < 6 → v14 (f + 5 + 1 + i) = .inl (cy 0, 14, .inl (fun _ => 0)) := fun i hi => by rw [e14]; exact (xu_ne (by omega)).trans (hrw i hi)
  have hlow : ∀ a, a < f → v14 a = w a := fun a ha => by rw [e14]; exact (xu_ne (by omega)).trans (hlow a ha)
  refine x_putF (ty := tyX7 5) (ref := RX7) (C := RX7) (T := TX7) (N := 14) (ci := 7) (v := .ref (f + 12)) hx hb hts iX7 tyX7 tyX7_ok nmX7 hown hK.1.1 hP hS (by omega) (by omega) hs rfl 5 (by decide) (hts (.fieldLink RX7 30 "PoreFieldModel$Field" "capacity" "[I") (by decide +kernel)) (fun _ h9 => h9) rfl hin2 rfl (by decide +kernel) rfl rfl (Nat.le_of_ble_eq_true rfl) dX7_init_67 (fun H locs hP hS => ?_)
  refine x_gen hP (fun v15 e15 hP => ?_)
  have hro : v15 (f + 1) = .inl (cy 0, 16, .inl (fun _ => 0)) := by rw [e15]; exact (xu_ne (by omega)).trans hro
  have hha : v15 (f + 2) = .inl (cy 0, 48, .inl (fun _ => 0)) := by rw [e15]; exact (xu_ne (by omega)).trans hha
  have hea : v15 (f + 3) = .inl (cy 5, 16, .inl (fun _ => 0)) := by rw [e15]; exact (xu_ne (by omega)).trans hea
  have hso : v15 (f + 4) = .inl (cy 5, 16, .inl (fun _ => 0)) := by rw [e15]; exact (xu_ne (by omega)).trans hso
  have hwe : v15 (f + 5) = .inl (cy 6, 6, .inr (.inr (.inr (.inr fun i => if i < 6 then some (f + 5 + 1 + i) else none)))) := by rw [e15]; exact (xu_ne (by omega)).trans hwe
  have hca : v15 (f + 12) = .inl (cy 0, 3, .inl (upd (upd (upd (fun _ => 0) 0 (40 : Int32)) 1 (40 : Int32)) 2 (40 : Int32))) := by rw [e15]; exact (xu_ne (by omega)).trans hca
  have hs : v15 f = .inr (7, [.ref (f + 1), .ref (f + 2), .ref (f + 3), .ref (f + 4), .ref (f + 5), .ref (f + 12), .null, .null, .null, .int (0 : Int32), .int (0 : Int32), .int (0 : Int32), .int (0 : Int32), .int (0 : Int32)]) := by rw [e15]; exact xu_same _ _ _
  have hrw : ∀ i, i < 6 → v15 (f + 5 + 1 + i) = .inl (cy 0, 14, .inl (fun _ => 0)) := fun i hi => by rw [e15]; exact (xu_ne (by omega)).trans (hrw i hi)
  have hlow : ∀ a, a < f → v15 a = w a := fun a ha => by rw [e15]; exact (xu_ne (by omega)).trans (hlow a ha)
  refine lv_aload_n hx hb dX7_init_70 rfl (lv_at hl 0 rfl) ?_
  refine lv_bipush (v := 6) hx hb dX7_init_71 (by decide) ?_
  refine n_newi (q0 := (f + 13)) (N := 6) hx hb harr hK.1.1 hP hS (by omega) (by omega) (by omega) 0 rfl (by decide) (by decide) (by omega) (by show _ ≤ 15; omega) (by show _ ≤ 201; omega) dX7_init_73 (fun H hP hS => ?_)
  refine x_gen hP (fun v16 e16 hP => ?_)
  have hs : v16 f = .inr (7, [.ref (f + 1), .ref (f + 2), .ref (f + 3), .ref (f + 4), .ref (f + 5), .ref (f + 12), .null, .null, .null, .int (0 : Int32), .int (0 : Int32), .int (0 : Int32), .int (0 : Int32), .int (0 : Int32)]) := by rw [e16]; exact (xu_ne (by omega)).trans hs
  have hro : v16 (f + 1) = .inl (cy 0, 16, .inl (fun _ => 0)) := by rw [e16]; exact (xu_ne (by omega)).trans hro
  have hha : v16 (f + 2) = .inl (cy 0, 48, .inl (fun _ => 0)) := by rw [e16]; exact (xu_ne (by omega)).trans hha
  have hea : v16 (f + 3) = .inl (cy 5, 16, .inl (fun _ => 0)) := by rw [e16]; exact (xu_ne (by omega)).trans hea
  have hso : v16 (f + 4) = .inl (cy 5, 16, .inl (fun _ => 0)) := by rw [e16]; exact (xu_ne (by omega)).trans hso
  have hwe : v16 (f + 5) = .inl (cy 6, 6, .inr (.inr (.inr (.inr fun i => if i < 6 then some (f + 5 + 1 + i) else none)))) := by rw [e16]; exact (xu_ne (by omega)).trans hwe
  have hca : v16 (f + 12) = .inl (cy 0, 3, .inl (upd (upd (upd (fun _ => 0) 0 (40 : Int32)) 1 (40 : Int32)) 2 (40 : Int32))) := by rw [e16]; exact (xu_ne (by omega)).trans hca
  have hsu : v16 (f + 13) = .inl (cy 0, 6, .inl (fun _ => 0)) := by rw [e16]; exact xu_same _ _ _
  have hrw : ∀ i, i < 6 → v16 (f + 5 + 1 + i) = .inl (cy 0, 14, .inl (fun _ => 0)) := fun i hi => by rw [e16]; exact (xu_ne (by omega)).trans (hrw i hi)
  have hlow : ∀ a, a < f → v16 a = w a := fun a ha => by rw [e16]; exact (xu_ne (by omega)).trans (hlow a ha)
  refine x_putF (ty := tyX7 6) (ref := RX7) (C := RX7) (T := TX7) (N := 14) (ci := 7) (v := .ref (f + 13)) hx hb hts iX7 tyX7 tyX7_ok nmX7 hown hK.1.1 hP hS (by omega) (by omega) hs rfl 6 (by decide) (hts (.fieldLink RX7 33 "PoreFieldModel$Field" "sums" "[I") (by decide +kernel)) (fun _ h9 => h9) rfl hin2 rfl (by decide +kernel) rfl rfl (Nat.le_of_ble_eq_true rfl) dX7_init_75 (fun H locs hP hS => ?_)
  refine x_gen hP (fun v17 e17 hP => ?_)
  have hro : v17 (f + 1) = .inl (cy 0, 16, .inl (fun _ => 0)) := by rw [e17]; exact (xu_ne (by omega)).trans hro
  have hha : v17 (f + 2) = .inl (cy 0, 48, .inl (fun _ => 0)) := by rw [e17]; exact (xu_ne (by omega)).trans hha
  have hea : v17 (f + 3) = .inl (cy 5, 16, .inl (fun _ => 0)) := by rw [e17]; exact (xu_ne (by omega)).trans hea
  have hso : v17 (f + 4) = .inl (cy 5, 16, .inl (fun _ => 0)) := by rw [e17]; exact (xu_ne (by omega)).trans hso
  have hwe : v17 (f + 5) = .inl (cy 6, 6, .inr (.inr (.inr (.inr fun i => if i < 6 then some (f + 5 + 1 + i) else none)))) := by rw [e17]; exact (xu_ne (by omega)).trans hwe
  have hca : v17 (f + 12) = .inl (cy 0, 3, .inl (upd (upd (upd (fun _ => 0) 0 (40 : Int32)) 1 (40 : Int32)) 2 (40 : Int32))) := by rw [e17]; exact (xu_ne (by omega)).trans hca
  have hsu : v17 (f + 13) = .inl (cy 0, 6, .inl (fun _ => 0)) := by rw [e17]; exact (xu_ne (by omega)).trans hsu
  have hs : v17 f = .inr (7, [.ref (f + 1), .ref (f + 2), .ref (f + 3), .ref (f + 4), .ref (f + 5), .ref (f + 12), .ref (f + 13), .null, .null, .int (0 : Int32), .int (0 : Int32), .int (0 : Int32), .int (0 : Int32), .int (0 : Int32)]) := by rw [e17]; exact xu_same _ _ _
  have hrw : ∀ i, i < 6 → v17 (f + 5 + 1 + i) = .inl (cy 0, 14, .inl (fun _ => 0)) := fun i hi => by rw [e17]; exact (xu_ne (by omega)).trans (hrw i hi)
  have hlow : ∀ a, a < f → v17 a = w a := fun a ha => by rw [e17]; exact (xu_ne (by omega)).trans (hlow a ha)
  refine lv_aload_n hx hb dX7_init_78 rfl (lv_at hl 0 rfl) ?_
  refine lv_iconst (v := 3) hx hb dX7_init_79 (by decide) ?_
  refine n_newi (q0 := (f + 14)) (N := 3) hx hb harr hK.1.1 hP hS (by omega) (by omega) (by omega) 0 rfl (by decide) (by decide) (by omega) (by show _ ≤ 15; omega) (by show _ ≤ 201; omega) dX7_init_80 (fun H hP hS => ?_)
  refine x_gen hP (fun v18 e18 hP => ?_)
  have hs : v18 f = .inr (7, [.ref (f + 1), .ref (f + 2), .ref (f + 3), .ref (f + 4), .ref (f + 5), .ref (f + 12), .ref (f + 13), .null, .null, .int (0 : Int32), .int (0 : Int32), .int (0 : Int32), .int (0 : Int32), .int (0 : Int32)]) := by rw [e18]; exact (xu_ne (by omega)).trans hs
  have hro : v18 (f + 1) = .inl (cy 0, 16, .inl (fun _ => 0)) := by rw [e18]; exact (xu_ne (by omega)).trans hro
  have hha : v18 (f + 2) = .inl (cy 0, 48, .inl (fun _ => 0)) := by rw [e18]; exact (xu_ne (by omega)).trans hha
  have hea : v18 (f + 3) = .inl (cy 5, 16, .inl (fun _ => 0)) := by rw [e18]; exact (xu_ne (by omega)).trans hea
  have hso : v18 (f + 4) = .inl (cy 5, 16, .inl (fun _ => 0)) := by rw [e18]; exact (xu_ne (by omega)).trans hso
  have hwe : v18 (f + 5) = .inl (cy 6, 6, .inr (.inr (.inr (.inr fun i => if i < 6 then some (f + 5 + 1 + i) else none)))) := by rw [e18]; exact (xu_ne (by omega)).trans hwe
  have hca : v18 (f + 12) = .inl (cy 0, 3, .inl (upd (upd (upd (fun _ => 0) 0 (40 : Int32)) 1 (40 : Int32)) 2 (40 : Int32))) := by rw [e18]; exact (xu_ne (by omega)).trans hca
  have hsu : v18 (f + 13) = .inl (cy 0, 6, .inl (fun _ => 0)) := by rw [e18]; exact (xu_ne (by omega)).trans hsu
  have hgo : v18 (f + 14) = .inl (cy 0, 3, .inl (fun _ => 0)) := by rw [e18]; exact xu_same _ _ _
  have hrw : ∀ i, i < 6 → v18 (f + 5 + 1 + i) = .inl (cy 0, 14, .inl (fun _ => 0)) := fun i hi => by rw [e18]; exact (xu_ne (by omega)).trans (hrw i hi)
  have hlow : ∀ a, a < f → v18 a = w a := fun a ha => by rw [e18]; exact (xu_ne (by omega)).trans (hlow a ha)
  refine x_putF (ty := tyX7 7) (ref := RX7) (C := RX7) (T := TX7) (N := 14) (ci := 7) (v := .ref (f + 14)) hx hb hts iX7 tyX7 tyX7_ok nmX7 hown hK.1.1 hP hS (by omega) (by omega) hs rfl 7 (by decide) (hts (.fieldLink RX7 36 "PoreFieldModel$Field" "goes" "[I") (by decide +kernel)) (fun _ h9 => h9) rfl hin2 rfl (by decide +kernel) rfl rfl (Nat.le_of_ble_eq_true rfl) dX7_init_82 (fun H locs hP hS => ?_)
  refine x_gen hP (fun v19 e19 hP => ?_)
  have hro : v19 (f + 1) = .inl (cy 0, 16, .inl (fun _ => 0)) := by rw [e19]; exact (xu_ne (by omega)).trans hro
  have hha : v19 (f + 2) = .inl (cy 0, 48, .inl (fun _ => 0)) := by rw [e19]; exact (xu_ne (by omega)).trans hha
  have hea : v19 (f + 3) = .inl (cy 5, 16, .inl (fun _ => 0)) := by rw [e19]; exact (xu_ne (by omega)).trans hea
  have hso : v19 (f + 4) = .inl (cy 5, 16, .inl (fun _ => 0)) := by rw [e19]; exact (xu_ne (by omega)).trans hso
  have hwe : v19 (f + 5) = .inl (cy 6, 6, .inr (.inr (.inr (.inr fun i => if i < 6 then some (f + 5 + 1 + i) else none)))) := by rw [e19]; exact (xu_ne (by omega)).trans hwe
  have hca : v19 (f + 12) = .inl (cy 0, 3, .inl (upd (upd (upd (fun _ => 0) 0 (40 : Int32)) 1 (40 : Int32)) 2 (40 : Int32))) := by rw [e19]; exact (xu_ne (by omega)).trans hca
  have hsu : v19 (f + 13) = .inl (cy 0, 6, .inl (fun _ => 0)) := by rw [e19]; exact (xu_ne (by omega)).trans hsu
  have hgo : v19 (f + 14) = .inl (cy 0, 3, .inl (fun _ => 0)) := by rw [e19]; exact (xu_ne (by omega)).trans hgo
  have hs : v19 f = .inr (7, [.ref (f + 1), .ref (f + 2), .ref (f + 3), .ref (f + 4), .ref (f + 5), .ref (f + 12), .ref (f + 13), .ref (f + 14), .null, .int (0 : Int32), .int (0 : Int32), .int (0 : Int32), .int (0 : Int32), .int (0 : Int32)]) := by rw [e19]; exact xu_same _ _ _
  have hrw : ∀ i, i < 6 → v19 (f + 5 + 1 + i) = .inl (cy 0, 14, .inl (fun _ => 0)) := fun i hi => by rw [e19]; exact (xu_ne (by omega)).trans (hrw i hi)
  have hlow : ∀ a, a < f → v19 a = w a := fun a ha => by rw [e19]; exact (xu_ne (by omega)).trans (hlow a ha)
  refine lv_aload_n hx hb dX7_init_85 rfl (lv_at hl 0 rfl) ?_
  refine lv_iconst (v := 3) hx hb dX7_init_86 (by decide) ?_
  refine n_newi (q0 := (f + 15)) (N := 3) hx hb harr hK.1.1 hP hS (by omega) (by omega) (by omega) 0 rfl (by decide) (by decide) (by omega) (by show _ ≤ 15; omega) (by show _ ≤ 201; omega) dX7_init_87 (fun H hP hS => ?_)
  refine x_gen hP (fun v20 e20 hP => ?_)
  have hs : v20 f = .inr (7, [.ref (f + 1), .ref (f + 2), .ref (f + 3), .ref (f + 4), .ref (f + 5), .ref (f + 12), .ref (f + 13), .ref (f + 14), .null, .int (0 : Int32), .int (0 : Int32), .int (0 : Int32), .int (0 : Int32), .int (0 : Int32)]) := by rw [e20]; exact (xu_ne (by omega)).trans hs
  have hro : v20 (f + 1) = .inl (cy 0, 16, .inl (fun _ => 0)) := by rw [e20]; exact (xu_ne (by omega)).trans hro
  have hha : v20 (f + 2) = .inl (cy 0, 48, .inl (fun _ => 0)) := by rw [e20]; exact (xu_ne (by omega)).trans hha
  have hea : v20 (f + 3) = .inl (cy 5, 16, .inl (fun _ => 0)) := by rw [e20]; exact (xu_ne (by omega)).trans hea
  have hso : v20 (f + 4) = .inl (cy 5, 16, .inl (fun _ => 0)) := by rw [e20]; exact (xu_ne (by omega)).trans hso
  have hwe : v20 (f + 5) = .inl (cy 6, 6, .inr (.inr (.inr (.inr fun i => if i < 6 then some (f + 5 + 1 + i) else none)))) := by rw [e20]; exact (xu_ne (by omega)).trans hwe
  have hca : v20 (f + 12) = .inl (cy 0, 3, .inl (upd (upd (upd (fun _ => 0) 0 (40 : Int32)) 1 (40 : Int32)) 2 (40 : Int32))) := by rw [e20]; exact (xu_ne (by omega)).trans hca
  have hsu : v20 (f + 13) = .inl (cy 0, 6, .inl (fun _ => 0)) := by rw [e20]; exact (xu_ne (by omega)).trans hsu
  have hgo : v20 (f + 14) = .inl (cy 0, 3, .inl (fun _ => 0)) := by rw [e20]; exact (xu_ne (by omega)).trans hgo
  have hle : v20 (f + 15) = .inl (cy 0, 3, .inl (fun _ => 0)) := by rw [e20]; exact xu_same _ _ _
  have hrw : ∀ i, i < 6 → v20 (f + 5 + 1 + i) = .inl (cy 0, 14, .inl (fun _ => 0)) := fun i hi => by rw [e20]; exact (xu_ne (by omega)).trans (hrw i hi)
  have hlow : ∀ a, a < f → v20 a = w a := fun a ha => by rw [e20]; exact (xu_ne (by omega)).trans (hlow a ha)
  refine x_putF (ty := tyX7 8) (ref := RX7) (C := RX7) (T := TX7) (N := 14) (ci := 7) (v := .ref (f + 15)) hx hb hts iX7 tyX7 tyX7_ok nmX7 hown hK.1.1 hP hS (by omega) (by omega) hs rfl 8 (by decide) (hts (.fieldLink RX7 39 "PoreFieldModel$Field" "left" "[I") (by decide +kernel)) (fun _ h9 => h9) rfl hin2 rfl (by decide +kernel) rfl rfl (Nat.le_of_ble_eq_true rfl) dX7_init_89 (fun H locs hP hS => ?_)
  refine x_gen hP (fun v21 e21 hP => ?_)
  have hro : v21 (f + 1) = .inl (cy 0, 16, .inl (fun _ => 0)) := by rw [e21]; exact (xu_ne (by omega)).trans hro
  have hha : v21 (f + 2) = .inl (cy 0, 48, .inl (fun _ => 0)) := by rw [e21]; exact (xu_ne (by omega)).trans hha
  have hea : v21 (f + 3) = .inl (cy 5, 16, .inl (fun _ => 0)) := by rw [e21]; exact (xu_ne (by omega)).trans hea
  have hso : v21 (f + 4) = .inl (cy 5, 16, .inl (fun _ => 0)) := by rw [e21]; exact (xu_ne (by omega)).trans hso
  have hwe : v21 (f + 5) = .inl (cy 6, 6, .inr (.inr (.inr (.inr fun i => if i < 6 then some (f + 5 + 1 + i) else none)))) := by rw [e21]; exact (xu_ne (by omega)).trans hwe
  have hca : v21 (f + 12) = .inl (cy 0, 3, .inl (upd (upd (upd (fun _ => 0) 0 (40 : Int32)) 1 (40 : Int32)) 2 (40 : Int32))) := by rw [e21]; exact (xu_ne (by omega)).trans hca
  have hsu : v21 (f + 13) = .inl (cy 0, 6, .inl (fun _ => 0)) := by rw [e21]; exact (xu_ne (by omega)).trans hsu
  have hgo : v21 (f + 14) = .inl (cy 0, 3, .inl (fun _ => 0)) := by rw [e21]; exact (xu_ne (by omega)).trans hgo
  have hle : v21 (f + 15) = .inl (cy 0, 3, .inl (fun _ => 0)) := by rw [e21]; exact (xu_ne (by omega)).trans hle
  have hs : v21 f = .inr (7, [.ref (f + 1), .ref (f + 2), .ref (f + 3), .ref (f + 4), .ref (f + 5), .ref (f + 12), .ref (f + 13), .ref (f + 14), .ref (f + 15), .int (0 : Int32), .int (0 : Int32), .int (0 : Int32), .int (0 : Int32), .int (0 : Int32)]) := by rw [e21]; exact xu_same _ _ _
  have hrw : ∀ i, i < 6 → v21 (f + 5 + 1 + i) = .inl (cy 0, 14, .inl (fun _ => 0)) := fun i hi => by rw [e21]; exact (xu_ne (by omega)).trans (hrw i hi)
  have hlow : ∀ a, a < f → v21 a = w a := fun a ha => by rw [e21]; exact (xu_ne (by omega)).trans (hlow a ha)
  refine lv_aload_n hx hb dX7_init_92 rfl (lv_at hl 0 rfl) ?_
  refine lv_bipush (v := 10) hx hb dX7_init_93 (by decide) ?_
  refine x_put (ty := tyX7 11) (ref := RX7) (C := RX7) (T := TX7) (N := 14) (ci := 7) (v := .int (10 : Int32)) hx hb hts iX7 tyX7 tyX7_ok nmX7 hown hK.1.1 hP hS (by omega) (by omega) hs rfl 11 (by decide) (hts (.fieldLink RX7 42 "PoreFieldModel$Field" "permit" "I") (by decide +kernel)) (fun _ h9 => h9) rfl (by decide +kernel) rfl rfl (Nat.le_of_ble_eq_true rfl) dX7_init_95 (fun H locs hP hS => ?_)
  refine x_gen hP (fun v22 e22 hP => ?_)
  have hro : v22 (f + 1) = .inl (cy 0, 16, .inl (fun _ => 0)) := by rw [e22]; exact (xu_ne (by omega)).trans hro
  have hha : v22 (f + 2) = .inl (cy 0, 48, .inl (fun _ => 0)) := by rw [e22]; exact (xu_ne (by omega)).trans hha
  have hea : v22 (f + 3) = .inl (cy 5, 16, .inl (fun _ => 0)) := by rw [e22]; exact (xu_ne (by omega)).trans hea
  have hso : v22 (f + 4) = .inl (cy 5, 16, .inl (fun _ => 0)) := by rw [e22]; exact (xu_ne (by omega)).trans hso
  have hwe : v22 (f + 5) = .inl (cy 6, 6, .inr (.inr (.inr (.inr fun i => if i < 6 then some (f + 5 + 1 + i) else none)))) := by rw [e22]; exact (xu_ne (by omega)).trans hwe
  have hca : v22 (f + 12) = .inl (cy 0, 3, .inl (upd (upd (upd (fun _ => 0) 0 (40 : Int32)) 1 (40 : Int32)) 2 (40 : Int32))) := by rw [e22]; exact (xu_ne (by omega)).trans hca
  have hsu : v22 (f + 13) = .inl (cy 0, 6, .inl (fun _ => 0)) := by rw [e22]; exact (xu_ne (by omega)).trans hsu
  have hgo : v22 (f + 14) = .inl (cy 0, 3, .inl (fun _ => 0)) := by rw [e22]; exact (xu_ne (by omega)).trans hgo
  have hle : v22 (f + 15) = .inl (cy 0, 3, .inl (fun _ => 0)) := by rw [e22]; exact (xu_ne (by omega)).trans hle
  have hs : v22 f = .inr (7, [.ref (f + 1), .ref (f + 2), .ref (f + 3), .ref (f + 4), .ref (f + 5), .ref (f + 12), .ref (f + 13), .ref (f + 14), .ref (f + 15), .int (0 : Int32), .int (0 : Int32), .int (10 : Int32), .int (0 : Int32), .int (0 : Int32)]) := by rw [e22]; exact xu_same _ _ _
  have hrw : ∀ i, i < 6 → v22 (f + 5 + 1 + i) = .inl (cy 0, 14, .inl (fun _ => 0)) := fun i hi => by rw [e22]; exact (xu_ne (by omega)).trans (hrw i hi)
  have hlow : ∀ a, a < f → v22 a = w a := fun a ha => by rw [e22]; exact (xu_ne (by omega)).trans (hlow a ha)
  refine lv_aload_n hx hb dX7_init_98 rfl (lv_at hl 0 rfl) ?_
  refine lv_sipush (v := 300) hx hb dX7_init_99 (by decide) ?_
  refine x_put (ty := tyX7 12) (ref := RX7) (C := RX7) (T := TX7) (N := 14) (ci := 7) (v := .int (300 : Int32)) hx hb hts iX7 tyX7 tyX7_ok nmX7 hown hK.1.1 hP hS (by omega) (by omega) hs rfl 12 (by decide) (hts (.fieldLink RX7 46 "PoreFieldModel$Field" "tank" "I") (by decide +kernel)) (fun _ h9 => h9) rfl (by decide +kernel) rfl rfl (Nat.le_of_ble_eq_true rfl) dX7_init_102 (fun H locs hP hS => ?_)
  refine x_gen hP (fun v23 e23 hP => ?_)
  have hro : v23 (f + 1) = .inl (cy 0, 16, .inl (fun _ => 0)) := by rw [e23]; exact (xu_ne (by omega)).trans hro
  have hha : v23 (f + 2) = .inl (cy 0, 48, .inl (fun _ => 0)) := by rw [e23]; exact (xu_ne (by omega)).trans hha
  have hea : v23 (f + 3) = .inl (cy 5, 16, .inl (fun _ => 0)) := by rw [e23]; exact (xu_ne (by omega)).trans hea
  have hso : v23 (f + 4) = .inl (cy 5, 16, .inl (fun _ => 0)) := by rw [e23]; exact (xu_ne (by omega)).trans hso
  have hwe : v23 (f + 5) = .inl (cy 6, 6, .inr (.inr (.inr (.inr fun i => if i < 6 then some (f + 5 + 1 + i) else none)))) := by rw [e23]; exact (xu_ne (by omega)).trans hwe
  have hca : v23 (f + 12) = .inl (cy 0, 3, .inl (upd (upd (upd (fun _ => 0) 0 (40 : Int32)) 1 (40 : Int32)) 2 (40 : Int32))) := by rw [e23]; exact (xu_ne (by omega)).trans hca
  have hsu : v23 (f + 13) = .inl (cy 0, 6, .inl (fun _ => 0)) := by rw [e23]; exact (xu_ne (by omega)).trans hsu
  have hgo : v23 (f + 14) = .inl (cy 0, 3, .inl (fun _ => 0)) := by rw [e23]; exact (xu_ne (by omega)).trans hgo
  have hle : v23 (f + 15) = .inl (cy 0, 3, .inl (fun _ => 0)) := by rw [e23]; exact (xu_ne (by omega)).trans hle
  have hs : v23 f = .inr (7, [.ref (f + 1), .ref (f + 2), .ref (f + 3), .ref (f + 4), .ref (f + 5), .ref (f + 12), .ref (f + 13), .ref (f + 14), .ref (f + 15), .int (0 : Int32), .int (0 : Int32), .int (10 : Int32), .int (300 : Int32), .int (0 : Int32)]) := by rw [e23]; exact xu_same _ _ _
  have hrw : ∀ i, i < 6 → v23 (f + 5 + 1 + i) = .inl (cy 0, 14, .inl (fun _ => 0)) := fun i hi => by rw [e23]; exact (xu_ne (by omega)).trans (hrw i hi)
  have hlow : ∀ a, a < f → v23 a = w a := fun a ha => by rw [e23]; exact (xu_ne (by omega)).trans (hlow a ha)
  refine lv_iconst (v := 0) hx hb dX7_init_105 (by decide) ?_
  refine lv_istore_n (lv' := [(1, .int (0 : Int32)), (0, .ref f)]) hx hb dX7_init_106 rfl hl (by decide) rfl (fun ls hl => ?_)
  have hF : ∀ d : Nat → Int32, (∀ j, j < 16 → d j = 40) → FM cy (va_up v23 (f + 1) (.inl (cy 0, 16, .inl d))) f 0 300 := fun d hd => by
    refine ⟨(xu_ne (by omega)).trans hs, AU.at hd, ⟨_, (xu_ne (by omega)).trans hha, fun _ _ => rfl⟩, ⟨_, (xu_ne (by omega)).trans hea, fun _ _ => rfl⟩, ⟨_, (xu_ne (by omega)).trans hso, fun _ _ => rfl⟩, (xu_ne (by omega)).trans hwe, fun i hi => ⟨_, (xu_ne (by omega)).trans (hrw i hi), fun _ _ => rfl⟩, ⟨_, (xu_ne (by omega)).trans hca, fun j hj => ?_⟩, ⟨_, (xu_ne (by omega)).trans hsu, fun _ _ => rfl⟩, ⟨_, (xu_ne (by omega)).trans hgo, fun _ _ => rfl⟩, ⟨_, (xu_ne (by omega)).trans hle⟩⟩
    rcases (by omega : j = 0 ∨ j = 1 ∨ j = 2) with rfl | rfl | rfl <;> rfl
  have hroK : ∃ d : Nat → Int32, v23 (f + 1) = .inl (cy 0, 16, .inl d) ∧ ∀ j, j < 0 → d j = 40 := ⟨_, hro, fun j hj => absurd hj (by omega)⟩
  have L1 : ∀ (r k : Nat) (H : Heap) (locs : List Loc) (ls : Array Slot) (vL1 : Nat → va_E), k + r = 16 → lv_has ls 2 [(1, .int (nI k)), (0, .ref f)] → (∃ d : Nat → Int32, vL1 (f + 1) = .inl (cy 0, 16, .inl d) ∧ ∀ j, j < k → d j = 40) → (∀ d : Nat → Int32, (∀ j, j < 16 → d j = 40) → FM cy (va_up vL1 (f + 1) (.inl (cy 0, 16, .inl d))) f 0 300) → (∀ a, a < f → vL1 a = w a) → va_P D vwCl (rl lo (n + 15) vL1) H → va_S (fun q : Nat => lo ≤ q) s.heap H locs → W p l e (headSpec wsX7_init ({ frames := 1, cells := 15, slots := 201, locals := 30 })).room s m (([.ref f] : List Value).toArray) below meth c H locs 15 201 (MQ below (va_Qv (fun (u : Nat → va_E) => FM cy u f 0 300 ∧ ∀ a, a < f → u a = w a) (fun u tE => va_P D vwCl (rl lo (n + 15) u) tE.heap ∧ tE.heap.size = lo + (n + 15)) (fun q : Nat => lo ≤ q)) (([.ref f] : List Value).toArray) s 15 201 (fun q : Nat => lo ≤ q)) (F0 m 107 ls []) := by
    intro r
    induction r with
    | zero =>
      intro k H locs ls vL1 hk hl hroK hF hlow hP hS
      have e9 : k = 16 := by omega
      subst k
      refine lv_iload_n hx hb dX7_init_107 rfl (lv_at hl 0 rfl) ?_
      refine lv_bipush (v := 16) hx hb dX7_init_108 (by decide) ?_
      refine lv_icmp_ge (tgt := 127) hx hb dX7_init_110 (by decide) (fun _ => ?_) (fun h => absurd ((br_le (show (16 : Int32) = nI 16 from rfl) (show (nI 16) = nI 16 from rfl) (by omega) (by omega)).mpr (by omega)) h)
      obtain ⟨d9, g9, q9⟩ := hroK
      have hF9 := hF d9 q9
      have e9 : va_up vL1 (f + 1) (.inl (cy 0, 16, .inl d9)) = vL1 := up_id g9
      rw [e9] at hF9
      refine x_size fun hz1 => ?_
      have hz2 := (rl_one hP (a := lo + (n + 14)) (by omega) (by omega)).lt
      exact W.vret hx hb hr (fun tE ht hW => ⟨⟨vL1, rfl, ⟨hF9, hlow⟩, x_at ht hP, by rw [ht]; omega⟩, hS.F ht⟩) hS.2.2 dX7_init_127
    | succ r ih =>
      intro k H locs ls vL1 hk hl hroK hF hlow hP hS
      refine lv_iload_n hx hb dX7_init_107 rfl (lv_at hl 0 rfl) ?_
      refine lv_bipush (v := 16) hx hb dX7_init_108 (by decide) ?_
      refine lv_icmp_ge (tgt := 127) hx hb dX7_init_110 (by decide) (fun h => absurd h (fun h9 => absurd ((br_le (show (16 : Int32) = nI 16 from rfl) (show (nI k) = nI k from rfl) (by omega) (by omega)).mp h9) (by omega))) (fun _ => ?_)
      refine lv_aload_n hx hb dX7_init_113 rfl (lv_at hl 1 rfl) ?_
      refine x_get (ref := RX7) (C := RX7) (T := TX7) (N := 14) (ci := 7) (v := .ref (f + 1)) hx hb hts iX7 hown hK.1.1 hP (by omega) (by omega) ((xu_ne (by omega)).symm.trans (hF _ (fun _ _ => rfl)).self) rfl 0 (by decide) (hts (.fieldLink RX7 9 "PoreFieldModel$Field" "room" "[I") (by decide +kernel)) (fun _ h9 => h9) rfl dX7_init_114 ?_
      refine lv_iload_n hx hb dX7_init_117 rfl (lv_at hl 0 rfl) ?_
      refine lv_bipush (v := 40) hx hb dX7_init_118 (by decide) ?_
      obtain ⟨d9, g9, q9⟩ := hroK
      refine x_iast hx hb hK.1.1 hP hS (by omega) (by omega) 0 g9 rfl (cl_of_nI (i := k) rfl (by omega)) (vp_in_of_nI (i := k) rfl (by omega) (by omega)) dX7_init_120 (fun H locs hP hS => ?_)
      have hroN : ∃ d : Nat → Int32, va_up vL1 (f + 1) (.inl (cy 0, 16, .inl (upd d9 k 40))) (f + 1) = .inl (cy 0, 16, .inl d) ∧ ∀ j, j < k + 1 → d j = 40 := ⟨_, xu_same _ _ _, fun j hj => by
        unfold upd
        split
        · rfl
        · exact q9 j (by omega)⟩
      refine lv_iinc (v := (nI (k + 1))) (lv' := [(1, .int (nI (k + 1))), (0, .ref f)]) hx hb dX7_init_121 hl (k := 0) rfl (nI_1 _) (by decide) rfl (fun ls hl => ?_)
      refine lv_goto (tgt := 107) hx hb dX7_init_124 (by decide) ?_
      exact ih (k + 1) _ _ _ _ (by omega) (lv_sub hl [0, 1] rfl) hroN (fun d hd => by rw [xu_uu]; exact hF d hd) (fun a ha => (xu_ne (by omega)).trans (hlow a ha)) hP hS
  exact L1 16 0 _ _ _ _ (by omega) (lv_sub hl [0, 1] rfl) hroK hF hlow hP hS
