/-! Told.<init> -/
section
variable {p : Program} {l : Launch} {e : Env} {R : Room} {s : State} {m : MethodId} {args : Array Value} {below : List Frame} {meth : Method} {c : Code} {H : Heap} {locs : List Loc} {cells slots : Nat} {Q : State → Prop}
variable {cc : ByteArray} {pc : Nat} {ls : Array Slot} {rest : List Value} {D : va_G} {cl : List vw_C} {a : Nat} {tys : List (ClassId × FieldType)} {H0 : Heap} {lo n : Nat} {w : Nat → va_E}
/-- another name for what is known of the run -/
theorem x_gen {v : Nat → va_E} (hP : va_P D cl (rl lo n v) H) {g : JFrame} (kk : ∀ u : Nat → va_E, u = v → va_P D cl (rl lo n u) H → W p l e R s m args below meth c H locs cells slots Q g) : W p l e R s m args below meth c H locs cells slots Q g := kk v rfl hP
end
section
variable {cy : Nat → ClassId} {w u : Nat → va_E} {A : Nat → Prop} {lo n t b d d' wo nd : Nat} {wr : Nat → Nat} {G T P : Mem}
theorem mnw_q {q : Nat} {cA c0 : ClassId} {N K : Nat} : mnw w q cA c0 N K q = .inl (cA, N, .inr (.inr (.inr (.inr fun i => if i < N then some (q + 1 + i) else none)))) := by unfold mnw; rw [if_pos rfl]
theorem mnw_r {q i : Nat} {cA c0 : ClassId} {N K : Nat} (hi : i < N) : mnw w q cA c0 N K (q + 1 + i) = .inl (c0, K, .inl (fun _ => 0)) := by unfold mnw; rw [if_neg (by omega), if_pos (by omega)]
theorem mnw_o {q a : Nat} {cA c0 : ClassId} {N K : Nat} (h : a < q ∨ q + 1 + N ≤ a) : mnw w q cA c0 N K a = w a := by unfold mnw; rw [if_neg (by omega), if_neg (by omega)]
theorem TW.room (h : TW cy w A lo n t b d wo wr nd G T P) {r : Nat → Int32} : TW cy (va_up w (t + 119) (.inl (cy 0, 16, .inl r))) A lo n t b d wo wr nd G T P := by
  obtain ⟨r0, hr0⟩ := h.rooms
  refine h.of ((xu_ne (by omega)).trans h.obj) (pw_ext h.pf (fun a h1 h2 => xu_ne (by omega))) (fun a _ h2 hn => xu_ne (fun q => hn (cy 0) 16 r0 (by rw [q]; exact hr0))) (fun a c N f _ h2 q => ?_) (fun i hi => ?_) (fun i hi => ?_) ?_
  · by_cases e : a = t + 119
    · subst e
      rw [hr0] at q
      cases q
      exact ⟨r, xu_same _ _ _⟩
    · exact ⟨f, (xu_ne e).trans q⟩
  · obtain ⟨r, h1, h2⟩ := h.shutR i hi
    exact ⟨r, (xu_ne (by omega)).trans h1, h2⟩
  · obtain ⟨r, h1, h2⟩ := h.row i hi
    exact ⟨r, (xu_ne (by have := (h.wrA i hi).2; omega)).trans h1, h2⟩
  · obtain ⟨r, h1, h2⟩ := h.caps
    exact ⟨r, (xu_ne (by omega)).trans h1, h2⟩
end
set_option maxRecDepth 100000 in
set_option maxHeartbeats 4000000 in
/-- Told.<init> -/
theorem c_X7_init (l : Launch) (D : va_G) (cy : Nat → ClassId) (lo n : Nat) (w : Nat → va_E) (t b d : Nat) (wr : Nat → Nat) (hd : d < 2 ^ 31) (ht1 : lo ≤ t) (ht2 : t + 1 = lo + n) : Met l yX7_init wsX7_init ({ frames := 4, cells := 156, slots := 628, locals := 85 }) (PcN D cy lo n (va_up w t (.inr (7, [.null, .null, .int 0, .null, .null, .null, .null, .null, .int 0, .int 0, .int 0, .int 0, .null]))) [.ref t, .ref b, .int (nI d)]) (va_Qv (fun (u : Nat → va_E) => TW cy u (fun a => t ≤ a ∧ a < t + 157) lo (n + 156) t b d (t + 154) wr 0 G0 G0 P0 ∧ ∀ a, a < t → u a = w a) (fun u tE => va_P D vwCl (rl lo (n + 156) u) tE.heap ∧ tE.heap.size = lo + (n + 156)) (fun q : Nat => lo ≤ q)) 156 628 (fun q : Nat => lo ≤ q) := by
  refine Met.ofW (cc := cX7_init) (maxL := 4) (ret := none) (by decide) rfl ?_
  intro p e s m args below meth c s₁ B hml hv
  obtain ⟨rfl, hsz, hP, hK, hS⟩ := n_entry hv
  have hx := B.exec
  have hb := B.bytes
  have hr := B.returns
  have hts := atoms_spec (ws := wsX7_init) B.pre
  have hown : s.vm.findClass RX7 = some m.cls := findClass_of_methodNamed B.named
  have hin2 : meth.name = "<init>" := (name_of_methodNamed B.named B.method).1
  have iX7 : ∀ w ∈ u_ws RX7 TX7 13, w ∈ wsX7_init := by decide +kernel
  have iX6 : ∀ w ∈ u_ws RX6 TX6 11, w ∈ wsX7_init := by decide +kernel
  have hAi : AOA .int s := hK.1.2.2.2.2.1
  have hAb : AOA .boolean s := hK.1.2.2.2.2.2
  have harr : (Cond.arrayClass (newarray.typeOf .int)).before ([.ref t, .ref b, .int (nI d)] : List Value).toArray s = true := hts (.arrayClass .int) (by decide +kernel)
  have hK6 : s.vm.findClass ("[" ++ (FieldType.array .int).toString) = some (cy 6) := (hK.1.1.2 6 _ rfl).2
  have hK0 : s.vm.findClass (FieldType.array .int).toString = some (cy 0) := (hK.1.1.2 0 _ rfl).2
  have hK7 : s.vm.findClass ("[" ++ (FieldType.array .boolean).toString) = some (cy 7) := (hK.1.1.2 7 _ rfl).2
  have hK5 : s.vm.findClass (FieldType.array .boolean).toString = some (cy 5) := (hK.1.1.2 5 _ rfl).2
  have hl := lv_entry ([.ref t, .ref b, .int (nI d)]) (n := 4) (Nat.le_of_ble_eq_true rfl)
  rw [lg_entry_eq]
  generalize (lg_sl ([.ref t, .ref b, .int (nI d)]) ++ List.replicate (4 - (lg_sl ([.ref t, .ref b, .int (nI d)])).length) Slot.unset).toArray = ls at hl ⊢
  have hl : lv_has ls 4 [(0, .ref t), (1, .ref b), (2, .int (nI d))] := hl
  refine lv_aload_n hx hb dX7_init_0 rfl (lv_at hl 0 rfl) ?_
  refine W.objInit hx hb hown (hts (.methodLink RX7 1 objectInit) (by decide +kernel)) (hts (.instanceMethod objectInit) (by decide +kernel)) (hts (.code objectInit ⟨#[0xb1]⟩ 1 none) (by decide +kernel)) rfl (by rw [hml]; exact hl.1) rfl dX7_init_1 (Nat.le_of_ble_eq_true rfl) (Nat.le_of_ble_eq_true rfl) ?_
  refine lv_aload_n hx hb dX7_init_4 rfl (lv_at hl 0 rfl) ?_
  refine n_new (C := RX6) (T := TX6) (N := 11) (ci := 6) (fs := [.null, .null, .null, .null, .null, .null, .int 0, .int 0, .int 0, .int 0, .int 0]) (q0 := t + 1) hx hb hts iX6 tyX6 tyX6_ok hown (hts (.classLink RX7 7 RX6) (by decide +kernel)) (hts (.instantiable RX6 11) (by decide +kernel)) (hts (.initialized RX6) (by decide +kernel)) hK.1.1 hP hS (by omega) (by omega) (by omega) rfl (fun j hj => by rcases (by omega : j = 0 ∨ j = 1 ∨ j = 2 ∨ j = 3 ∨ j = 4 ∨ j = 5 ∨ j = 6 ∨ j = 7 ∨ j = 8 ∨ j = 9 ∨ j = 10) with rfl | rfl | rfl | rfl | rfl | rfl | rfl | rfl | rfl | rfl | rfl <;> rfl) (by show _ ≤ 156; omega) (by show _ ≤ 628; omega) dX7_init_5 (fun H hP hS => ?_)
  refine lv_dup hx hb dX7_init_8 rfl ?_
  refine x_sz (by omega) hP (fun hzH => ?_)
  refine x_callv (va_runI (As := []) (rest := [.ref (t + 1), .ref t]) ⟨hx, hb, hml, hown, hts⟩ (c_X6_init l D cy lo (n + 1) (va_up w t (.inr (7, [.null, .null, .int 0, .null, .null, .null, .null, .null, .int 0, .int 0, .int 0, .int 0, .null]))) (t + 1) (by omega) (by omega)) (cwI 0 hts ggX7_init_X6_init rfl rfl rfl (hts (.initialized RX6) (by decide +kernel)) (hts (.methodLink RX7 9 yX6_init) (by decide +kernel)) (hts (.instanceMethod yX6_init) (by decide +kernel)) rfl (by decide +kernel) ⟨Nat.le_of_ble_eq_true rfl, Nat.le_of_ble_eq_true rfl⟩) (preSN hzH hP hK) rfl rfl hl.1 rfl (lv_room (Nat.le_of_ble_eq_true rfl)) dX7_init_9 ⟨by show _ ≤ 156; omega, by show _ ≤ 628; omega⟩) hS (fun H locs hP hS => ?_)
  refine x_gen hP (fun v0 e0 hP => ?_)
  have ob : v0 t = .inr (7, [.null, .null, .int 0, .null, .null, .null, .null, .null, .int 0, .int 0, .int 0, .int 0, .null]) := by rw [e0]; exact (pw_out (by omega)).trans (xu_same _ _ _)
  have hpf : pw cy v0 (t + 1) G0 G0 P0 = v0 := by rw [e0]; exact pw_pw
  have hfr : ∀ a, a < t → v0 a = w a := fun a ha => by rw [e0]; exact (pw_out (by omega)).trans (xu_ne (by omega))
  refine x_putF (ty := tyX7 0) (ref := RX7) (C := RX7) (T := TX7) (N := 13) (ci := 7) (v := .ref (t + 1)) hx hb hts iX7 tyX7 tyX7_ok nmX7 hown hK.1.1 hP hS (by omega) (by omega) ob rfl 0 (by decide) (hts (.fieldLink RX7 10 "PoreFieldLaw$Told" "m" "LPoreField;") (by decide +kernel)) (fun _ h9 => h9) rfl hin2 rfl (by decide +kernel) rfl rfl (Nat.le_of_ble_eq_true rfl) dX7_init_12 (fun H locs hP hS => ?_)
  refine x_gen hP (fun v1 e1 hP => ?_)
  have ob : v1 t = .inr (7, [.ref (t + 1), .null, .int 0, .null, .null, .null, .null, .null, .int 0, .int 0, .int 0, .int 0, .null]) := by rw [e1]; exact xu_same _ _ _
  have hpf : pw cy v1 (t + 1) G0 G0 P0 = v1 := pw_ext hpf (fun a h1 h2 => by rw [e1]; exact xu_ne (by omega))
  have hfr : ∀ a, a < t → v1 a = w a := fun a ha => by rw [e1]; exact (xu_ne (by omega)).trans (hfr a ha)
  refine lv_aload_n hx hb dX7_init_15 rfl (lv_at hl 0 rfl) ?_
  refine lv_bipush (v := 16) hx hb dX7_init_16 (by decide) ?_
  refine n_newi (q0 := t + 119) (N := 16) hx hb harr hK.1.1 hP hS (by omega) (by omega) (by omega) 0 rfl (by decide) (by decide) (by omega) (by show _ ≤ 156; omega) (by show _ ≤ 628; omega) dX7_init_18 (fun H hP hS => ?_)
  refine x_gen hP (fun v2 e2 hP => ?_)
  have ob : v2 t = .inr (7, [.ref (t + 1), .null, .int 0, .null, .null, .null, .null, .null, .int 0, .int 0, .int 0, .int 0, .null]) := by rw [e2, xu_ne (by omega)]; exact ob
  have ro : v2 (t + 119) = .inl (cy 0, 16, .inl (fun _ => 0)) := by rw [e2]; exact xu_same _ _ _
  have hpf : pw cy v2 (t + 1) G0 G0 P0 = v2 := pw_ext hpf (fun a h1 h2 => by rw [e2]; exact xu_ne (by omega))
  have hfr : ∀ a, a < t → v2 a = w a := fun a ha => by rw [e2]; exact (xu_ne (by omega)).trans (hfr a ha)
  refine x_putF (ty := tyX7 3) (ref := RX7) (C := RX7) (T := TX7) (N := 13) (ci := 7) (v := .ref (t + 119)) hx hb hts iX7 tyX7 tyX7_ok nmX7 hown hK.1.1 hP hS (by omega) (by omega) ob rfl 3 (by decide) (hts (.fieldLink RX7 16 "PoreFieldLaw$Told" "rooms" "[I") (by decide +kernel)) (fun _ h9 => h9) rfl hin2 rfl (by decide +kernel) rfl rfl (Nat.le_of_ble_eq_true rfl) dX7_init_20 (fun H locs hP hS => ?_)
  refine x_gen hP (fun v3 e3 hP => ?_)
  have ro : v3 (t + 119) = .inl (cy 0, 16, .inl (fun _ => 0)) := by rw [e3, xu_ne (by omega)]; exact ro
  have ob : v3 t = .inr (7, [.ref (t + 1), .null, .int 0, .ref (t + 119), .null, .null, .null, .null, .int 0, .int 0, .int 0, .int 0, .null]) := by rw [e3]; exact xu_same _ _ _
  have hpf : pw cy v3 (t + 1) G0 G0 P0 = v3 := pw_ext hpf (fun a h1 h2 => by rw [e3]; exact xu_ne (by omega))
  have hfr : ∀ a, a < t → v3 a = w a := fun a ha => by rw [e3]; exact (xu_ne (by omega)).trans (hfr a ha)
  refine lv_aload_n hx hb dX7_init_23 rfl (lv_at hl 0 rfl) ?_
  refine lv_bipush (v := 16) hx hb dX7_init_24 (by decide) ?_
  refine lv_iconst (v := 3) hx hb dX7_init_26 (by decide) ?_
  have ea : lo + (n + 1 + 117 + 1) = t + 120 := by omega
  refine x_mna (ty := .int) hx hb hown (hts (.classLink RX7 20 "[[I") (by decide +kernel)) hAi (hts (.arrayClass .int) (by decide +kernel)) hK.1.1 hP hS (by omega) (by omega) 6 0 (cA := cy 6) (c0 := cy 0) rfl hK6 hK0 (N := 16) (K := 3) (by decide) (by decide) rfl rfl (by omega) (by decide) (by omega) rfl rfl (by show _ ≤ 156; omega) (by show _ ≤ 628; omega) (fun c9 => by first | rfl | exact rfl) dX7_init_27 (fun H hP hS => ?_)
  rw [ea] at hP ⊢
  refine x_gen hP (fun v4 e4 hP => ?_)
  have ob : v4 t = .inr (7, [.ref (t + 1), .null, .int 0, .ref (t + 119), .null, .null, .null, .null, .int 0, .int 0, .int 0, .int 0, .null]) := by rw [e4, mnw_o (by omega)]; exact ob
  have ro : v4 (t + 119) = .inl (cy 0, 16, .inl (fun _ => 0)) := by rw [e4, mnw_o (by omega)]; exact ro
  have ha : v4 (t + 120) = .inl (cy 6, 16, .inr (.inr (.inr (.inr fun i => if i < 16 then some (t + 120 + 1 + i) else none)))) := by rw [e4]; exact mnw_q
  have hpf : pw cy v4 (t + 1) G0 G0 P0 = v4 := pw_ext hpf (fun a h1 h2 => by rw [e4]; exact mnw_o (by omega))
  have hfr : ∀ a, a < t → v4 a = w a := fun a ha => by rw [e4]; exact (mnw_o (by omega)).trans (hfr a ha)
  have hrow : ∀ i, i < 16 → v4 (t + 120 + 1 + i) = .inl (cy 0, 3, .inl (fun _ => 0)) := fun i hi => by rw [e4]; exact mnw_r hi
  refine x_putF (ty := tyX7 4) (ref := RX7) (C := RX7) (T := TX7) (N := 13) (ci := 7) (v := .ref (t + 120)) hx hb hts iX7 tyX7 tyX7_ok nmX7 hown hK.1.1 hP hS (by omega) (by omega) ob rfl 4 (by decide) (hts (.fieldLink RX7 22 "PoreFieldLaw$Told" "has" "[[I") (by decide +kernel)) (fun _ h9 => h9) rfl hin2 rfl (by decide +kernel) rfl rfl (Nat.le_of_ble_eq_true rfl) dX7_init_31 (fun H locs hP hS => ?_)
  refine x_gen hP (fun v5 e5 hP => ?_)
  have ro : v5 (t + 119) = .inl (cy 0, 16, .inl (fun _ => 0)) := by rw [e5, xu_ne (by omega)]; exact ro
  have ha : v5 (t + 120) = .inl (cy 6, 16, .inr (.inr (.inr (.inr fun i => if i < 16 then some (t + 120 + 1 + i) else none)))) := by rw [e5, xu_ne (by omega)]; exact ha
  have ob : v5 t = .inr (7, [.ref (t + 1), .null, .int 0, .ref (t + 119), .ref (t + 120), .null, .null, .null, .int 0, .int 0, .int 0, .int 0, .null]) := by rw [e5]; exact xu_same _ _ _
  have hpf : pw cy v5 (t + 1) G0 G0 P0 = v5 := pw_ext hpf (fun a h1 h2 => by rw [e5]; exact xu_ne (by omega))
  have hfr : ∀ a, a < t → v5 a = w a := fun a ha => by rw [e5]; exact (xu_ne (by omega)).trans (hfr a ha)
  have hrow : ∀ i, i < 16 → v5 (t + 120 + 1 + i) = .inl (cy 0, 3, .inl (fun _ => 0)) := fun i hi => by rw [e5]; exact (xu_ne (by omega)).trans (hrow i hi)
  refine lv_aload_n hx hb dX7_init_34 rfl (lv_at hl 0 rfl) ?_
  refine lv_bipush (v := 16) hx hb dX7_init_35 (by decide) ?_
  refine lv_iconst (v := 2) hx hb dX7_init_37 (by decide) ?_
  have ea : lo + (n + 1 + 117 + 1 + 1 + 16) = t + 137 := by omega
  refine x_mna (ty := .boolean) hx hb hown (hts (.classLink RX7 25 "[[Z") (by decide +kernel)) hAb (hts (.arrayClass .boolean) (by decide +kernel)) hK.1.1 hP hS (by omega) (by omega) 7 5 (cA := cy 7) (c0 := cy 5) rfl hK7 hK5 (N := 16) (K := 2) (by decide) (by decide) rfl rfl (by omega) (by decide) (by omega) rfl rfl (by show _ ≤ 156; omega) (by show _ ≤ 628; omega) (fun c9 => by first | rfl | exact rfl) dX7_init_38 (fun H hP hS => ?_)
  rw [ea] at hP ⊢
  refine x_gen hP (fun v6 e6 hP => ?_)
  have ob : v6 t = .inr (7, [.ref (t + 1), .null, .int 0, .ref (t + 119), .ref (t + 120), .null, .null, .null, .int 0, .int 0, .int 0, .int 0, .null]) := by rw [e6, mnw_o (by omega)]; exact ob
  have ro : v6 (t + 119) = .inl (cy 0, 16, .inl (fun _ => 0)) := by rw [e6, mnw_o (by omega)]; exact ro
  have ha : v6 (t + 120) = .inl (cy 6, 16, .inr (.inr (.inr (.inr fun i => if i < 16 then some (t + 120 + 1 + i) else none)))) := by rw [e6, mnw_o (by omega)]; exact ha
  have sh : v6 (t + 137) = .inl (cy 7, 16, .inr (.inr (.inr (.inr fun i => if i < 16 then some (t + 137 + 1 + i) else none)))) := by rw [e6]; exact mnw_q
  have hpf : pw cy v6 (t + 1) G0 G0 P0 = v6 := pw_ext hpf (fun a h1 h2 => by rw [e6]; exact mnw_o (by omega))
  have hfr : ∀ a, a < t → v6 a = w a := fun a ha => by rw [e6]; exact (mnw_o (by omega)).trans (hfr a ha)
  have hrow : ∀ i, i < 16 → v6 (t + 120 + 1 + i) = .inl (cy 0, 3, .inl (fun _ => 0)) := fun i hi => by rw [e6]; exact (mnw_o (by omega)).trans (hrow i hi)
  have srow : ∀ i, i < 16 → v6 (t + 137 + 1 + i) = .inl (cy 5, 2, .inl (fun _ => 0)) := fun i hi => by rw [e6]; exact mnw_r hi
  refine x_putF (ty := tyX7 5) (ref := RX7) (C := RX7) (T := TX7) (N := 13) (ci := 7) (v := .ref (t + 137)) hx hb hts iX7 tyX7 tyX7_ok nmX7 hown hK.1.1 hP hS (by omega) (by omega) ob rfl 5 (by decide) (hts (.fieldLink RX7 27 "PoreFieldLaw$Told" "isShut" "[[Z") (by decide +kernel)) (fun _ h9 => h9) rfl hin2 rfl (by decide +kernel) rfl rfl (Nat.le_of_ble_eq_true rfl) dX7_init_42 (fun H locs hP hS => ?_)
  refine x_gen hP (fun v7 e7 hP => ?_)
  have ro : v7 (t + 119) = .inl (cy 0, 16, .inl (fun _ => 0)) := by rw [e7, xu_ne (by omega)]; exact ro
  have ha : v7 (t + 120) = .inl (cy 6, 16, .inr (.inr (.inr (.inr fun i => if i < 16 then some (t + 120 + 1 + i) else none)))) := by rw [e7, xu_ne (by omega)]; exact ha
  have sh : v7 (t + 137) = .inl (cy 7, 16, .inr (.inr (.inr (.inr fun i => if i < 16 then some (t + 137 + 1 + i) else none)))) := by rw [e7, xu_ne (by omega)]; exact sh
  have ob : v7 t = .inr (7, [.ref (t + 1), .null, .int 0, .ref (t + 119), .ref (t + 120), .ref (t + 137), .null, .null, .int 0, .int 0, .int 0, .int 0, .null]) := by rw [e7]; exact xu_same _ _ _
  have hpf : pw cy v7 (t + 1) G0 G0 P0 = v7 := pw_ext hpf (fun a h1 h2 => by rw [e7]; exact xu_ne (by omega))
  have hfr : ∀ a, a < t → v7 a = w a := fun a ha => by rw [e7]; exact (xu_ne (by omega)).trans (hfr a ha)
  have hrow : ∀ i, i < 16 → v7 (t + 120 + 1 + i) = .inl (cy 0, 3, .inl (fun _ => 0)) := fun i hi => by rw [e7]; exact (xu_ne (by omega)).trans (hrow i hi)
  have srow : ∀ i, i < 16 → v7 (t + 137 + 1 + i) = .inl (cy 5, 2, .inl (fun _ => 0)) := fun i hi => by rw [e7]; exact (xu_ne (by omega)).trans (srow i hi)
  refine lv_aload_n hx hb dX7_init_45 rfl (lv_at hl 0 rfl) ?_
  refine lv_iconst (v := 0) hx hb dX7_init_46 (by decide) ?_
  have ea : lo + (n + 1 + 117 + 1 + 1 + 16 + 1 + 16) = t + 154 := by omega
  refine x_newA hx hb hown (hts (.classLink RX7 30 "[I") (by decide +kernel)) hAi hK.1.1 hP hS (by omega) (by omega) (N := 0) 6 rfl (by decide) (by decide) (by omega) (by show _ ≤ 156; omega) (by show _ ≤ 628; omega) dX7_init_47 (fun H hP hS => ?_)
  rw [ea] at hP ⊢
  refine x_gen hP (fun v8 e8 hP => ?_)
  have ob : v8 t = .inr (7, [.ref (t + 1), .null, .int 0, .ref (t + 119), .ref (t + 120), .ref (t + 137), .null, .null, .int 0, .int 0, .int 0, .int 0, .null]) := by rw [e8, xu_ne (by omega)]; exact ob
  have ro : v8 (t + 119) = .inl (cy 0, 16, .inl (fun _ => 0)) := by rw [e8, xu_ne (by omega)]; exact ro
  have ha : v8 (t + 120) = .inl (cy 6, 16, .inr (.inr (.inr (.inr fun i => if i < 16 then some (t + 120 + 1 + i) else none)))) := by rw [e8, xu_ne (by omega)]; exact ha
  have sh : v8 (t + 137) = .inl (cy 7, 16, .inr (.inr (.inr (.inr fun i => if i < 16 then some (t + 137 + 1 + i) else none)))) := by rw [e8, xu_ne (by omega)]; exact sh
  have we : v8 (t + 154) = .inl (cy 6, 0, .inr (.inr (.inr (.inr (fun _ => none))))) := by rw [e8]; exact xu_same _ _ _
  have hpf : pw cy v8 (t + 1) G0 G0 P0 = v8 := pw_ext hpf (fun a h1 h2 => by rw [e8]; exact xu_ne (by omega))
  have hfr : ∀ a, a < t → v8 a = w a := fun a ha => by rw [e8]; exact (xu_ne (by omega)).trans (hfr a ha)
  have hrow : ∀ i, i < 16 → v8 (t + 120 + 1 + i) = .inl (cy 0, 3, .inl (fun _ => 0)) := fun i hi => by rw [e8]; exact (xu_ne (by omega)).trans (hrow i hi)
  have srow : ∀ i, i < 16 → v8 (t + 137 + 1 + i) = .inl (cy 5, 2, .inl (fun _ => 0)) := fun i hi => by rw [e8]; exact (xu_ne (by omega)).trans (srow i hi)
  refine x_put (ty := tyX7 6) (ref := RX7) (C := RX7) (T := TX7) (N := 13) (ci := 7) (v := .ref (t + 154)) hx hb hts iX7 tyX7 tyX7_ok nmX7 hown hK.1.1 hP hS (by omega) (by omega) ob rfl 6 (by decide) (hts (.fieldLink RX7 31 "PoreFieldLaw$Told" "wells" "[[I") (by decide +kernel)) (fun _ h9 => h9) rfl (by decide +kernel) rfl rfl (Nat.le_of_ble_eq_true rfl) dX7_init_50 (fun H locs hP hS => ?_)
  refine x_gen hP (fun v9 e9 hP => ?_)
  have ro : v9 (t + 119) = .inl (cy 0, 16, .inl (fun _ => 0)) := by rw [e9, xu_ne (by omega)]; exact ro
  have ha : v9 (t + 120) = .inl (cy 6, 16, .inr (.inr (.inr (.inr fun i => if i < 16 then some (t + 120 + 1 + i) else none)))) := by rw [e9, xu_ne (by omega)]; exact ha
  have sh : v9 (t + 137) = .inl (cy 7, 16, .inr (.inr (.inr (.inr fun i => if i < 16 then some (t + 137 + 1 + i) else none)))) := by rw [e9, xu_ne (by omega)]; exact sh
  have we : v9 (t + 154) = .inl (cy 6, 0, .inr (.inr (.inr (.inr (fun _ => none))))) := by rw [e9, xu_ne (by omega)]; exact we
  have ob : v9 t = .inr (7, [.ref (t + 1), .null, .int 0, .ref (t + 119), .ref (t + 120), .ref (t + 137), .ref (t + 154), .null, .int 0, .int 0, .int 0, .int 0, .null]) := by rw [e9]; exact xu_same _ _ _
  have hpf : pw cy v9 (t + 1) G0 G0 P0 = v9 := pw_ext hpf (fun a h1 h2 => by rw [e9]; exact xu_ne (by omega))
  have hfr : ∀ a, a < t → v9 a = w a := fun a ha => by rw [e9]; exact (xu_ne (by omega)).trans (hfr a ha)
  have hrow : ∀ i, i < 16 → v9 (t + 120 + 1 + i) = .inl (cy 0, 3, .inl (fun _ => 0)) := fun i hi => by rw [e9]; exact (xu_ne (by omega)).trans (hrow i hi)
  have srow : ∀ i, i < 16 → v9 (t + 137 + 1 + i) = .inl (cy 5, 2, .inl (fun _ => 0)) := fun i hi => by rw [e9]; exact (xu_ne (by omega)).trans (srow i hi)
  refine lv_aload_n hx hb dX7_init_53 rfl (lv_at hl 0 rfl) ?_
  refine lv_iconst (v := 3) hx hb dX7_init_54 (by decide) ?_
  refine n_newi (q0 := t + 155) (N := 3) hx hb harr hK.1.1 hP hS (by omega) (by omega) (by omega) 0 rfl (by decide) (by decide) (by omega) (by show _ ≤ 156; omega) (by show _ ≤ 628; omega) dX7_init_55 (fun H hP hS => ?_)
  refine x_gen hP (fun v10 e10 hP => ?_)
  have ob : v10 t = .inr (7, [.ref (t + 1), .null, .int 0, .ref (t + 119), .ref (t + 120), .ref (t + 137), .ref (t + 154), .null, .int 0, .int 0, .int 0, .int 0, .null]) := by rw [e10, xu_ne (by omega)]; exact ob
  have ro : v10 (t + 119) = .inl (cy 0, 16, .inl (fun _ => 0)) := by rw [e10, xu_ne (by omega)]; exact ro
  have ha : v10 (t + 120) = .inl (cy 6, 16, .inr (.inr (.inr (.inr fun i => if i < 16 then some (t + 120 + 1 + i) else none)))) := by rw [e10, xu_ne (by omega)]; exact ha
  have sh : v10 (t + 137) = .inl (cy 7, 16, .inr (.inr (.inr (.inr fun i => if i < 16 then some (t + 137 + 1 + i) else none)))) := by rw [e10, xu_ne (by omega)]; exact sh
  have we : v10 (t + 154) = .inl (cy 6, 0, .inr (.inr (.inr (.inr (fun _ => none))))) := by rw [e10, xu_ne (by omega)]; exact we
  have ca : v10 (t + 155) = .inl (cy 0, 3, .inl (fun _ => 0)) := by rw [e10]; exact xu_same _ _ _
  have hpf : pw cy v10 (t + 1) G0 G0 P0 = v10 := pw_ext hpf (fun a h1 h2 => by rw [e10]; exact xu_ne (by omega))
  have hfr : ∀ a, a < t → v10 a = w a := fun a ha => by rw [e10]; exact (xu_ne (by omega)).trans (hfr a ha)
  have hrow : ∀ i, i < 16 → v10 (t + 120 + 1 + i) = .inl (cy 0, 3, .inl (fun _ => 0)) := fun i hi => by rw [e10]; exact (xu_ne (by omega)).trans (hrow i hi)
  have srow : ∀ i, i < 16 → v10 (t + 137 + 1 + i) = .inl (cy 5, 2, .inl (fun _ => 0)) := fun i hi => by rw [e10]; exact (xu_ne (by omega)).trans (srow i hi)
  refine lv_dup hx hb dX7_init_57 rfl ?_
  refine lv_iconst (v := 0) hx hb dX7_init_58 (by decide) ?_
  refine lv_bipush (v := 40) hx hb dX7_init_59 (by decide) ?_
  refine x_iast hx hb hK.1.1 hP hS (by omega) (by omega) 0 ca rfl (cl_of_nI (i := 0) rfl (by omega)) (vp_in_of_nI (i := 0) rfl (by omega) (by omega)) dX7_init_61 (fun H locs hP hS => ?_)
  refine x_gen hP (fun v11 e11 hP => ?_)
  have ob : v11 t = .inr (7, [.ref (t + 1), .null, .int 0, .ref (t + 119), .ref (t + 120), .ref (t + 137), .ref (t + 154), .null, .int 0, .int 0, .int 0, .int 0, .null]) := by rw [e11, xu_ne (by omega)]; exact ob
  have ro : v11 (t + 119) = .inl (cy 0, 16, .inl (fun _ => 0)) := by rw [e11, xu_ne (by omega)]; exact ro
  have ha : v11 (t + 120) = .inl (cy 6, 16, .inr (.inr (.inr (.inr fun i => if i < 16 then some (t + 120 + 1 + i) else none)))) := by rw [e11, xu_ne (by omega)]; exact ha
  have sh : v11 (t + 137) = .inl (cy 7, 16, .inr (.inr (.inr (.inr fun i => if i < 16 then some (t + 137 + 1 + i) else none)))) := by rw [e11, xu_ne (by omega)]; exact sh
  have we : v11 (t + 154) = .inl (cy 6, 0, .inr (.inr (.inr (.inr (fun _ => none))))) := by rw [e11, xu_ne (by omega)]; exact we
  have ca : v11 (t + 155) = .inl (cy 0, 3, .inl (upd (fun _ => 0) 0 40)) := by rw [e11]; exact xu_same _ _ _
  have hpf : pw cy v11 (t + 1) G0 G0 P0 = v11 := pw_ext hpf (fun a h1 h2 => by rw [e11]; exact xu_ne (by omega))
  have hfr : ∀ a, a < t → v11 a = w a := fun a ha => by rw [e11]; exact (xu_ne (by omega)).trans (hfr a ha)
  have hrow : ∀ i, i < 16 → v11 (t + 120 + 1 + i) = .inl (cy 0, 3, .inl (fun _ => 0)) := fun i hi => by rw [e11]; exact (xu_ne (by omega)).trans (hrow i hi)
  have srow : ∀ i, i < 16 → v11 (t + 137 + 1 + i) = .inl (cy 5, 2, .inl (fun _ => 0)) := fun i hi => by rw [e11]; exact (xu_ne (by omega)).trans (srow i hi)
  refine lv_dup hx hb dX7_init_62 rfl ?_
  refine lv_iconst (v := 1) hx hb dX7_init_63 (by decide) ?_
  refine lv_bipush (v := 40) hx hb dX7_init_64 (by decide) ?_
  refine x_iast hx hb hK.1.1 hP hS (by omega) (by omega) 0 ca rfl (cl_of_nI (i := 1) rfl (by omega)) (vp_in_of_nI (i := 1) rfl (by omega) (by omega)) dX7_init_66 (fun H locs hP hS => ?_)
  refine x_gen hP (fun v12 e12 hP => ?_)
  have ob : v12 t = .inr (7, [.ref (t + 1), .null, .int 0, .ref (t + 119), .ref (t + 120), .ref (t + 137), .ref (t + 154), .null, .int 0, .int 0, .int 0, .int 0, .null]) := by rw [e12, xu_ne (by omega)]; exact ob
  have ro : v12 (t + 119) = .inl (cy 0, 16, .inl (fun _ => 0)) := by rw [e12, xu_ne (by omega)]; exact ro
  have ha : v12 (t + 120) = .inl (cy 6, 16, .inr (.inr (.inr (.inr fun i => if i < 16 then some (t + 120 + 1 + i) else none)))) := by rw [e12, xu_ne (by omega)]; exact ha
  have sh : v12 (t + 137) = .inl (cy 7, 16, .inr (.inr (.inr (.inr fun i => if i < 16 then some (t + 137 + 1 + i) else none)))) := by rw [e12, xu_ne (by omega)]; exact sh
  have we : v12 (t + 154) = .inl (cy 6, 0, .inr (.inr (.inr (.inr (fun _ => none))))) := by rw [e12, xu_ne (by omega)]; exact we
  have ca : v12 (t + 155) = .inl (cy 0, 3, .inl (upd (upd (fun _ => 0) 0 40) 1 40)) := by rw [e12]; exact xu_same _ _ _
  have hpf : pw cy v12 (t + 1) G0 G0 P0 = v12 := pw_ext hpf (fun a h1 h2 => by rw [e12]; exact xu_ne (by omega))
  have hfr : ∀ a, a < t → v12 a = w a := fun a ha => by rw [e12]; exact (xu_ne (by omega)).trans (hfr a ha)
  have hrow : ∀ i, i < 16 → v12 (t + 120 + 1 + i) = .inl (cy 0, 3, .inl (fun _ => 0)) := fun i hi => by rw [e12]; exact (xu_ne (by omega)).trans (hrow i hi)
  have srow : ∀ i, i < 16 → v12 (t + 137 + 1 + i) = .inl (cy 5, 2, .inl (fun _ => 0)) := fun i hi => by rw [e12]; exact (xu_ne (by omega)).trans (srow i hi)
  refine lv_dup hx hb dX7_init_67 rfl ?_
  refine lv_iconst (v := 2) hx hb dX7_init_68 (by decide) ?_
  refine lv_bipush (v := 40) hx hb dX7_init_69 (by decide) ?_
  refine x_iast hx hb hK.1.1 hP hS (by omega) (by omega) 0 ca rfl (cl_of_nI (i := 2) rfl (by omega)) (vp_in_of_nI (i := 2) rfl (by omega) (by omega)) dX7_init_71 (fun H locs hP hS => ?_)
  refine x_gen hP (fun v13 e13 hP => ?_)
  have ob : v13 t = .inr (7, [.ref (t + 1), .null, .int 0, .ref (t + 119), .ref (t + 120), .ref (t + 137), .ref (t + 154), .null, .int 0, .int 0, .int 0, .int 0, .null]) := by rw [e13, xu_ne (by omega)]; exact ob
  have ro : v13 (t + 119) = .inl (cy 0, 16, .inl (fun _ => 0)) := by rw [e13, xu_ne (by omega)]; exact ro
  have ha : v13 (t + 120) = .inl (cy 6, 16, .inr (.inr (.inr (.inr fun i => if i < 16 then some (t + 120 + 1 + i) else none)))) := by rw [e13, xu_ne (by omega)]; exact ha
  have sh : v13 (t + 137) = .inl (cy 7, 16, .inr (.inr (.inr (.inr fun i => if i < 16 then some (t + 137 + 1 + i) else none)))) := by rw [e13, xu_ne (by omega)]; exact sh
  have we : v13 (t + 154) = .inl (cy 6, 0, .inr (.inr (.inr (.inr (fun _ => none))))) := by rw [e13, xu_ne (by omega)]; exact we
  have ca : v13 (t + 155) = .inl (cy 0, 3, .inl (upd (upd (upd (fun _ => 0) 0 40) 1 40) 2 40)) := by rw [e13]; exact xu_same _ _ _
  have hpf : pw cy v13 (t + 1) G0 G0 P0 = v13 := pw_ext hpf (fun a h1 h2 => by rw [e13]; exact xu_ne (by omega))
  have hfr : ∀ a, a < t → v13 a = w a := fun a ha => by rw [e13]; exact (xu_ne (by omega)).trans (hfr a ha)
  have hrow : ∀ i, i < 16 → v13 (t + 120 + 1 + i) = .inl (cy 0, 3, .inl (fun _ => 0)) := fun i hi => by rw [e13]; exact (xu_ne (by omega)).trans (hrow i hi)
  have srow : ∀ i, i < 16 → v13 (t + 137 + 1 + i) = .inl (cy 5, 2, .inl (fun _ => 0)) := fun i hi => by rw [e13]; exact (xu_ne (by omega)).trans (srow i hi)
  refine x_putF (ty := tyX7 7) (ref := RX7) (C := RX7) (T := TX7) (N := 13) (ci := 7) (v := .ref (t + 155)) hx hb hts iX7 tyX7 tyX7_ok nmX7 hown hK.1.1 hP hS (by omega) (by omega) ob rfl 7 (by decide) (hts (.fieldLink RX7 34 "PoreFieldLaw$Told" "capacities" "[I") (by decide +kernel)) (fun _ h9 => h9) rfl hin2 rfl (by decide +kernel) rfl rfl (Nat.le_of_ble_eq_true rfl) dX7_init_72 (fun H locs hP hS => ?_)
  refine x_gen hP (fun v14 e14 hP => ?_)
  have ro : v14 (t + 119) = .inl (cy 0, 16, .inl (fun _ => 0)) := by rw [e14, xu_ne (by omega)]; exact ro
  have ha : v14 (t + 120) = .inl (cy 6, 16, .inr (.inr (.inr (.inr fun i => if i < 16 then some (t + 120 + 1 + i) else none)))) := by rw [e14, xu_ne (by omega)]; exact ha
  have sh : v14 (t + 137) = .inl (cy 7, 16, .inr (.inr (.inr (.inr fun i => if i < 16 then some (t + 137 + 1 + i) else none)))) := by rw [e14, xu_ne (by omega)]; exact sh
  have we : v14 (t + 154) = .inl (cy 6, 0, .inr (.inr (.inr (.inr (fun _ => none))))) := by rw [e14, xu_ne (by omega)]; exact we
  have ca : v14 (t + 155) = .inl (cy 0, 3, .inl (upd (upd (upd (fun _ => 0) 0 40) 1 40) 2 40)) := by rw [e14, xu_ne (by omega)]; exact ca
  have ob : v14 t = .inr (7, [.ref (t + 1), .null, .int 0, .ref (t + 119), .ref (t + 120), .ref (t + 137), .ref (t + 154), .ref (t + 155), .int 0, .int 0, .int 0, .int 0, .null]) := by rw [e14]; exact xu_same _ _ _
  have hpf : pw cy v14 (t + 1) G0 G0 P0 = v14 := pw_ext hpf (fun a h1 h2 => by rw [e14]; exact xu_ne (by omega))
  have hfr : ∀ a, a < t → v14 a = w a := fun a ha => by rw [e14]; exact (xu_ne (by omega)).trans (hfr a ha)
  have hrow : ∀ i, i < 16 → v14 (t + 120 + 1 + i) = .inl (cy 0, 3, .inl (fun _ => 0)) := fun i hi => by rw [e14]; exact (xu_ne (by omega)).trans (hrow i hi)
  have srow : ∀ i, i < 16 → v14 (t + 137 + 1 + i) = .inl (cy 5, 2, .inl (fun _ => 0)) := fun i hi => by rw [e14]; exact (xu_ne (by omega)).trans (srow i hi)
  refine lv_aload_n hx hb dX7_init_75 rfl (lv_at hl 0 rfl) ?_
  refine lv_bipush (v := 10) hx hb dX7_init_76 (by decide) ?_
  refine x_put (ty := tyX7 8) (ref := RX7) (C := RX7) (T := TX7) (N := 13) (ci := 7) (v := .int 10) hx hb hts iX7 tyX7 tyX7_ok nmX7 hown hK.1.1 hP hS (by omega) (by omega) ob rfl 8 (by decide) (hts (.fieldLink RX7 37 "PoreFieldLaw$Told" "permit" "I") (by decide +kernel)) (fun _ h9 => h9) rfl (by decide +kernel) rfl rfl (Nat.le_of_ble_eq_true rfl) dX7_init_78 (fun H locs hP hS => ?_)
  refine x_gen hP (fun v15 e15 hP => ?_)
  have ro : v15 (t + 119) = .inl (cy 0, 16, .inl (fun _ => 0)) := by rw [e15, xu_ne (by omega)]; exact ro
  have ha : v15 (t + 120) = .inl (cy 6, 16, .inr (.inr (.inr (.inr fun i => if i < 16 then some (t + 120 + 1 + i) else none)))) := by rw [e15, xu_ne (by omega)]; exact ha
  have sh : v15 (t + 137) = .inl (cy 7, 16, .inr (.inr (.inr (.inr fun i => if i < 16 then some (t + 137 + 1 + i) else none)))) := by rw [e15, xu_ne (by omega)]; exact sh
  have we : v15 (t + 154) = .inl (cy 6, 0, .inr (.inr (.inr (.inr (fun _ => none))))) := by rw [e15, xu_ne (by omega)]; exact we
  have ca : v15 (t + 155) = .inl (cy 0, 3, .inl (upd (upd (upd (fun _ => 0) 0 40) 1 40) 2 40)) := by rw [e15, xu_ne (by omega)]; exact ca
  have ob : v15 t = .inr (7, [.ref (t + 1), .null, .int 0, .ref (t + 119), .ref (t + 120), .ref (t + 137), .ref (t + 154), .ref (t + 155), .int 10, .int 0, .int 0, .int 0, .null]) := by rw [e15]; exact xu_same _ _ _
  have hpf : pw cy v15 (t + 1) G0 G0 P0 = v15 := pw_ext hpf (fun a h1 h2 => by rw [e15]; exact xu_ne (by omega))
  have hfr : ∀ a, a < t → v15 a = w a := fun a ha => by rw [e15]; exact (xu_ne (by omega)).trans (hfr a ha)
  have hrow : ∀ i, i < 16 → v15 (t + 120 + 1 + i) = .inl (cy 0, 3, .inl (fun _ => 0)) := fun i hi => by rw [e15]; exact (xu_ne (by omega)).trans (hrow i hi)
  have srow : ∀ i, i < 16 → v15 (t + 137 + 1 + i) = .inl (cy 5, 2, .inl (fun _ => 0)) := fun i hi => by rw [e15]; exact (xu_ne (by omega)).trans (srow i hi)
  refine lv_aload_n hx hb dX7_init_81 rfl (lv_at hl 0 rfl) ?_
  refine lv_sipush (v := 300) hx hb dX7_init_82 (by decide) ?_
  refine x_put (ty := tyX7 9) (ref := RX7) (C := RX7) (T := TX7) (N := 13) (ci := 7) (v := .int 300) hx hb hts iX7 tyX7 tyX7_ok nmX7 hown hK.1.1 hP hS (by omega) (by omega) ob rfl 9 (by decide) (hts (.fieldLink RX7 41 "PoreFieldLaw$Told" "tank" "I") (by decide +kernel)) (fun _ h9 => h9) rfl (by decide +kernel) rfl rfl (Nat.le_of_ble_eq_true rfl) dX7_init_85 (fun H locs hP hS => ?_)
  refine x_gen hP (fun v16 e16 hP => ?_)
  have ro : v16 (t + 119) = .inl (cy 0, 16, .inl (fun _ => 0)) := by rw [e16, xu_ne (by omega)]; exact ro
  have ha : v16 (t + 120) = .inl (cy 6, 16, .inr (.inr (.inr (.inr fun i => if i < 16 then some (t + 120 + 1 + i) else none)))) := by rw [e16, xu_ne (by omega)]; exact ha
  have sh : v16 (t + 137) = .inl (cy 7, 16, .inr (.inr (.inr (.inr fun i => if i < 16 then some (t + 137 + 1 + i) else none)))) := by rw [e16, xu_ne (by omega)]; exact sh
  have we : v16 (t + 154) = .inl (cy 6, 0, .inr (.inr (.inr (.inr (fun _ => none))))) := by rw [e16, xu_ne (by omega)]; exact we
  have ca : v16 (t + 155) = .inl (cy 0, 3, .inl (upd (upd (upd (fun _ => 0) 0 40) 1 40) 2 40)) := by rw [e16, xu_ne (by omega)]; exact ca
  have ob : v16 t = .inr (7, [.ref (t + 1), .null, .int 0, .ref (t + 119), .ref (t + 120), .ref (t + 137), .ref (t + 154), .ref (t + 155), .int 10, .int 300, .int 0, .int 0, .null]) := by rw [e16]; exact xu_same _ _ _
  have hpf : pw cy v16 (t + 1) G0 G0 P0 = v16 := pw_ext hpf (fun a h1 h2 => by rw [e16]; exact xu_ne (by omega))
  have hfr : ∀ a, a < t → v16 a = w a := fun a ha => by rw [e16]; exact (xu_ne (by omega)).trans (hfr a ha)
  have hrow : ∀ i, i < 16 → v16 (t + 120 + 1 + i) = .inl (cy 0, 3, .inl (fun _ => 0)) := fun i hi => by rw [e16]; exact (xu_ne (by omega)).trans (hrow i hi)
  have srow : ∀ i, i < 16 → v16 (t + 137 + 1 + i) = .inl (cy 5, 2, .inl (fun _ => 0)) := fun i hi => by rw [e16]; exact (xu_ne (by omega)).trans (srow i hi)
  refine lv_aload_n hx hb dX7_init_88 rfl (lv_at hl 0 rfl) ?_
  refine lv_bipush (v := 6) hx hb dX7_init_89 (by decide) ?_
  refine n_newi (q0 := t + 156) (N := 6) hx hb harr hK.1.1 hP hS (by omega) (by omega) (by omega) 0 rfl (by decide) (by decide) (by omega) (by show _ ≤ 156; omega) (by show _ ≤ 628; omega) dX7_init_91 (fun H hP hS => ?_)
  refine x_gen hP (fun v17 e17 hP => ?_)
  have ob : v17 t = .inr (7, [.ref (t + 1), .null, .int 0, .ref (t + 119), .ref (t + 120), .ref (t + 137), .ref (t + 154), .ref (t + 155), .int 10, .int 300, .int 0, .int 0, .null]) := by rw [e17, xu_ne (by omega)]; exact ob
  have ro : v17 (t + 119) = .inl (cy 0, 16, .inl (fun _ => 0)) := by rw [e17, xu_ne (by omega)]; exact ro
  have ha : v17 (t + 120) = .inl (cy 6, 16, .inr (.inr (.inr (.inr fun i => if i < 16 then some (t + 120 + 1 + i) else none)))) := by rw [e17, xu_ne (by omega)]; exact ha
  have sh : v17 (t + 137) = .inl (cy 7, 16, .inr (.inr (.inr (.inr fun i => if i < 16 then some (t + 137 + 1 + i) else none)))) := by rw [e17, xu_ne (by omega)]; exact sh
  have we : v17 (t + 154) = .inl (cy 6, 0, .inr (.inr (.inr (.inr (fun _ => none))))) := by rw [e17, xu_ne (by omega)]; exact we
  have ca : v17 (t + 155) = .inl (cy 0, 3, .inl (upd (upd (upd (fun _ => 0) 0 40) 1 40) 2 40)) := by rw [e17, xu_ne (by omega)]; exact ca
  have su : v17 (t + 156) = .inl (cy 0, 6, .inl (fun _ => 0)) := by rw [e17]; exact xu_same _ _ _
  have hpf : pw cy v17 (t + 1) G0 G0 P0 = v17 := pw_ext hpf (fun a h1 h2 => by rw [e17]; exact xu_ne (by omega))
  have hfr : ∀ a, a < t → v17 a = w a := fun a ha => by rw [e17]; exact (xu_ne (by omega)).trans (hfr a ha)
  have hrow : ∀ i, i < 16 → v17 (t + 120 + 1 + i) = .inl (cy 0, 3, .inl (fun _ => 0)) := fun i hi => by rw [e17]; exact (xu_ne (by omega)).trans (hrow i hi)
  have srow : ∀ i, i < 16 → v17 (t + 137 + 1 + i) = .inl (cy 5, 2, .inl (fun _ => 0)) := fun i hi => by rw [e17]; exact (xu_ne (by omega)).trans (srow i hi)
  refine x_putF (ty := tyX7 12) (ref := RX7) (C := RX7) (T := TX7) (N := 13) (ci := 7) (v := .ref (t + 156)) hx hb hts iX7 tyX7 tyX7_ok nmX7 hown hK.1.1 hP hS (by omega) (by omega) ob rfl 12 (by decide) (hts (.fieldLink RX7 44 "PoreFieldLaw$Told" "sums" "[I") (by decide +kernel)) (fun _ h9 => h9) rfl hin2 rfl (by decide +kernel) rfl rfl (Nat.le_of_ble_eq_true rfl) dX7_init_93 (fun H locs hP hS => ?_)
  refine x_gen hP (fun v18 e18 hP => ?_)
  have ro : v18 (t + 119) = .inl (cy 0, 16, .inl (fun _ => 0)) := by rw [e18, xu_ne (by omega)]; exact ro
  have ha : v18 (t + 120) = .inl (cy 6, 16, .inr (.inr (.inr (.inr fun i => if i < 16 then some (t + 120 + 1 + i) else none)))) := by rw [e18, xu_ne (by omega)]; exact ha
  have sh : v18 (t + 137) = .inl (cy 7, 16, .inr (.inr (.inr (.inr fun i => if i < 16 then some (t + 137 + 1 + i) else none)))) := by rw [e18, xu_ne (by omega)]; exact sh
  have we : v18 (t + 154) = .inl (cy 6, 0, .inr (.inr (.inr (.inr (fun _ => none))))) := by rw [e18, xu_ne (by omega)]; exact we
  have ca : v18 (t + 155) = .inl (cy 0, 3, .inl (upd (upd (upd (fun _ => 0) 0 40) 1 40) 2 40)) := by rw [e18, xu_ne (by omega)]; exact ca
  have su : v18 (t + 156) = .inl (cy 0, 6, .inl (fun _ => 0)) := by rw [e18, xu_ne (by omega)]; exact su
  have ob : v18 t = .inr (7, [.ref (t + 1), .null, .int 0, .ref (t + 119), .ref (t + 120), .ref (t + 137), .ref (t + 154), .ref (t + 155), .int 10, .int 300, .int 0, .int 0, .ref (t + 156)]) := by rw [e18]; exact xu_same _ _ _
  have hpf : pw cy v18 (t + 1) G0 G0 P0 = v18 := pw_ext hpf (fun a h1 h2 => by rw [e18]; exact xu_ne (by omega))
  have hfr : ∀ a, a < t → v18 a = w a := fun a ha => by rw [e18]; exact (xu_ne (by omega)).trans (hfr a ha)
  have hrow : ∀ i, i < 16 → v18 (t + 120 + 1 + i) = .inl (cy 0, 3, .inl (fun _ => 0)) := fun i hi => by rw [e18]; exact (xu_ne (by omega)).trans (hrow i hi)
  have srow : ∀ i, i < 16 → v18 (t + 137 + 1 + i) = .inl (cy 5, 2, .inl (fun _ => 0)) := fun i hi => by rw [e18]; exact (xu_ne (by omega)).trans (srow i hi)
  refine lv_aload_n hx hb dX7_init_96 rfl (lv_at hl 0 rfl) ?_
  refine lv_aload_n hx hb dX7_init_97 rfl (lv_at hl 1 rfl) ?_
  refine x_putF (ty := tyX7 1) (ref := RX7) (C := RX7) (T := TX7) (N := 13) (ci := 7) (v := .ref b) hx hb hts iX7 tyX7 tyX7_ok nmX7 hown hK.1.1 hP hS (by omega) (by omega) ob rfl 1 (by decide) (hts (.fieldLink RX7 47 "PoreFieldLaw$Told" "s" "[I") (by decide +kernel)) (fun _ h9 => h9) rfl hin2 rfl (by decide +kernel) rfl rfl (Nat.le_of_ble_eq_true rfl) dX7_init_98 (fun H locs hP hS => ?_)
  refine x_gen hP (fun v19 e19 hP => ?_)
  have ro : v19 (t + 119) = .inl (cy 0, 16, .inl (fun _ => 0)) := by rw [e19, xu_ne (by omega)]; exact ro
  have ha : v19 (t + 120) = .inl (cy 6, 16, .inr (.inr (.inr (.inr fun i => if i < 16 then some (t + 120 + 1 + i) else none)))) := by rw [e19, xu_ne (by omega)]; exact ha
  have sh : v19 (t + 137) = .inl (cy 7, 16, .inr (.inr (.inr (.inr fun i => if i < 16 then some (t + 137 + 1 + i) else none)))) := by rw [e19, xu_ne (by omega)]; exact sh
  have we : v19 (t + 154) = .inl (cy 6, 0, .inr (.inr (.inr (.inr (fun _ => none))))) := by rw [e19, xu_ne (by omega)]; exact we
  have ca : v19 (t + 155) = .inl (cy 0, 3, .inl (upd (upd (upd (fun _ => 0) 0 40) 1 40) 2 40)) := by rw [e19, xu_ne (by omega)]; exact ca
  have su : v19 (t + 156) = .inl (cy 0, 6, .inl (fun _ => 0)) := by rw [e19, xu_ne (by omega)]; exact su
  have ob : v19 t = .inr (7, [.ref (t + 1), .ref b, .int 0, .ref (t + 119), .ref (t + 120), .ref (t + 137), .ref (t + 154), .ref (t + 155), .int 10, .int 300, .int 0, .int 0, .ref (t + 156)]) := by rw [e19]; exact xu_same _ _ _
  have hpf : pw cy v19 (t + 1) G0 G0 P0 = v19 := pw_ext hpf (fun a h1 h2 => by rw [e19]; exact xu_ne (by omega))
  have hfr : ∀ a, a < t → v19 a = w a := fun a ha => by rw [e19]; exact (xu_ne (by omega)).trans (hfr a ha)
  have hrow : ∀ i, i < 16 → v19 (t + 120 + 1 + i) = .inl (cy 0, 3, .inl (fun _ => 0)) := fun i hi => by rw [e19]; exact (xu_ne (by omega)).trans (hrow i hi)
  have srow : ∀ i, i < 16 → v19 (t + 137 + 1 + i) = .inl (cy 5, 2, .inl (fun _ => 0)) := fun i hi => by rw [e19]; exact (xu_ne (by omega)).trans (srow i hi)
  refine lv_aload_n hx hb dX7_init_101 rfl (lv_at hl 0 rfl) ?_
  refine lv_iload_n hx hb dX7_init_102 rfl (lv_at hl 2 rfl) ?_
  refine x_put (ty := tyX7 2) (ref := RX7) (C := RX7) (T := TX7) (N := 13) (ci := 7) (v := .int (nI d)) hx hb hts iX7 tyX7 tyX7_ok nmX7 hown hK.1.1 hP hS (by omega) (by omega) ob rfl 2 (by decide) (hts (.fieldLink RX7 50 "PoreFieldLaw$Told" "draws" "I") (by decide +kernel)) (fun _ h9 => h9) rfl (by decide +kernel) rfl rfl (Nat.le_of_ble_eq_true rfl) dX7_init_103 (fun H locs hP hS => ?_)
  refine x_gen hP (fun v20 e20 hP => ?_)
  have ro : v20 (t + 119) = .inl (cy 0, 16, .inl (fun _ => 0)) := by rw [e20, xu_ne (by omega)]; exact ro
  have ha : v20 (t + 120) = .inl (cy 6, 16, .inr (.inr (.inr (.inr fun i => if i < 16 then some (t + 120 + 1 + i) else none)))) := by rw [e20, xu_ne (by omega)]; exact ha
  have sh : v20 (t + 137) = .inl (cy 7, 16, .inr (.inr (.inr (.inr fun i => if i < 16 then some (t + 137 + 1 + i) else none)))) := by rw [e20, xu_ne (by omega)]; exact sh
  have we : v20 (t + 154) = .inl (cy 6, 0, .inr (.inr (.inr (.inr (fun _ => none))))) := by rw [e20, xu_ne (by omega)]; exact we
  have ca : v20 (t + 155) = .inl (cy 0, 3, .inl (upd (upd (upd (fun _ => 0) 0 40) 1 40) 2 40)) := by rw [e20, xu_ne (by omega)]; exact ca
  have su : v20 (t + 156) = .inl (cy 0, 6, .inl (fun _ => 0)) := by rw [e20, xu_ne (by omega)]; exact su
  have ob : v20 t = .inr (7, [.ref (t + 1), .ref b, .int (nI d), .ref (t + 119), .ref (t + 120), .ref (t + 137), .ref (t + 154), .ref (t + 155), .int 10, .int 300, .int 0, .int 0, .ref (t + 156)]) := by rw [e20]; exact xu_same _ _ _
  have hpf : pw cy v20 (t + 1) G0 G0 P0 = v20 := pw_ext hpf (fun a h1 h2 => by rw [e20]; exact xu_ne (by omega))
  have hfr : ∀ a, a < t → v20 a = w a := fun a ha => by rw [e20]; exact (xu_ne (by omega)).trans (hfr a ha)
  have hrow : ∀ i, i < 16 → v20 (t + 120 + 1 + i) = .inl (cy 0, 3, .inl (fun _ => 0)) := fun i hi => by rw [e20]; exact (xu_ne (by omega)).trans (hrow i hi)
  have srow : ∀ i, i < 16 → v20 (t + 137 + 1 + i) = .inl (cy 5, 2, .inl (fun _ => 0)) := fun i hi => by rw [e20]; exact (xu_ne (by omega)).trans (srow i hi)
  have hTW : TW cy v20 (fun a => t ≤ a ∧ a < t + 157) lo (n + 156) t b d (t + 154) wr 0 G0 G0 P0 := by
    refine ⟨ob, hpf, ⟨_, ro⟩, ⟨_, ha, fun i hi => ⟨t + 120 + 1 + i, _, if_pos hi, ⟨by omega, by omega⟩, by omega, hrow i hi⟩⟩, ?_, fun i hi => ⟨_, srow i hi, ?_, ?_⟩, ⟨_, we, fun i hi => absurd hi (by omega)⟩, ⟨⟨by omega, by omega⟩, by omega⟩, fun i hi => absurd hi (by omega), fun i j hi => absurd hi (by omega), fun i hi => absurd hi (by omega), ⟨_, ca, fun j hj => ?_⟩, fun a h1 h2 => ⟨h1, h2⟩, fun a h => by have := h.1; have := h.2; omega⟩
    · exact sh
    · unfold G0
      rw [if_neg (by omega), if_neg (by omega), if_pos (by omega), if_neg (by omega)]
    · unfold G0
      rw [if_neg (by omega), if_neg (by omega), if_pos (by omega), if_neg (by omega)]
    · rcases (by omega : j = 0 ∨ j = 1 ∨ j = 2) with rfl | rfl | rfl <;> rfl
  refine lv_iconst (v := 0) hx hb dX7_init_106 (by decide) ?_
  refine lv_istore_n (lv' := [(3, .int (0 : Int32)), (0, .ref t), (1, .ref b), (2, .int (nI d))]) hx hb dX7_init_107 rfl hl (by decide) rfl (fun ls hl => ?_)
  have key : ∀ (k j : Nat) (H : Heap) (locs : List Loc) (ls : Array Slot) (v : Nat → va_E), j + k = 16 → lv_has ls 4 [(3, .int (nI j)), (0, .ref t)] → TW cy v (fun a => t ≤ a ∧ a < t + 157) lo (n + 156) t b d (t + 154) wr 0 G0 G0 P0 → (∀ a, a < t → v a = w a) → va_P D vwCl (rl lo (n + 156) v) H → va_S (fun q : Nat => lo ≤ q) s.heap H locs → W p l e ({ frames := 4, cells := 156, slots := 628, locals := 85 } : Room) s m ([.ref t, .ref b, .int (nI d)] : List Value).toArray below meth c H locs 156 628 (MQ below (va_Qv (fun (u : Nat → va_E) => TW cy u (fun a => t ≤ a ∧ a < t + 157) lo (n + 156) t b d (t + 154) wr 0 G0 G0 P0 ∧ ∀ a, a < t → u a = w a) (fun u tE => va_P D vwCl (rl lo (n + 156) u) tE.heap ∧ tE.heap.size = lo + (n + 156)) (fun q : Nat => lo ≤ q)) ([.ref t, .ref b, .int (nI d)] : List Value).toArray s 156 628 (fun q : Nat => lo ≤ q)) (F0 m 108 ls []) := by
    intro k
    induction k with
    | zero =>
      intro j H locs ls v hj hl hT hf hP hS
      have hj : j = 16 := by omega
      subst hj
      refine lv_iload_n hx hb dX7_init_108 rfl (lv_at hl 0 rfl) ?_
      refine lv_bipush (v := 16) hx hb dX7_init_109 (by decide) ?_
      refine lv_icmp_ge (tgt := 128) hx hb dX7_init_111 (by decide) (fun _ => ?_) (fun c9 => absurd ((br_le (show (16 : Int32) = nI 16 from rfl) (show (nI 16) = nI 16 from rfl) (by omega) (by omega)).mpr (by omega)) c9)
      refine x_size fun hz1 => ?_
      have hz2 := (rl_one hP (a := lo + (n + 155)) (by omega) (by omega)).lt
      exact W.vret hx hb hr (fun tE ht hW => ⟨⟨v, rfl, ⟨hT, hf⟩, x_at ht hP, by rw [ht]; omega⟩, hS.F ht⟩) hS.2.2 dX7_init_128
    | succ k ih =>
      intro j H locs ls v hj hl hT hf hP hS
      obtain ⟨r, hr0⟩ := hT.rooms
      refine lv_iload_n hx hb dX7_init_108 rfl (lv_at hl 0 rfl) ?_
      refine lv_bipush (v := 16) hx hb dX7_init_109 (by decide) ?_
      refine lv_icmp_ge (tgt := 128) hx hb dX7_init_111 (by decide) (fun c9 => absurd ((br_le (show (16 : Int32) = nI 16 from rfl) (show (nI j) = nI j from rfl) (by omega) (by omega)).mp c9) (by omega)) (fun _ => ?_)
      refine lv_aload_n hx hb dX7_init_114 rfl (lv_at hl 1 rfl) ?_
      refine x_get (ref := RX7) (C := RX7) (T := TX7) (N := 13) (ci := 7) (v := .ref (t + 119)) hx hb hts iX7 hown hK.1.1 hP (by omega) (by omega) hT.obj rfl 3 (by decide) (hts (.fieldLink RX7 16 "PoreFieldLaw$Told" "rooms" "[I") (by decide +kernel)) (fun _ h9 => h9) rfl dX7_init_115 ?_
      refine lv_iload_n hx hb dX7_init_118 rfl (lv_at hl 0 rfl) ?_
      refine lv_bipush (v := 40) hx hb dX7_init_119 (by decide) ?_
      refine x_iast hx hb hK.1.1 hP hS (by omega) (by omega) 0 hr0 rfl (cl_of_nI (i := j) rfl (by omega)) (vp_in_of_nI (i := j) rfl (by omega) (by omega)) dX7_init_121 (fun H locs hP hS => ?_)
      refine lv_iinc (v := (nI (j + 1))) (lv' := [(3, .int (nI (j + 1))), (0, .ref t)]) hx hb dX7_init_122 hl (k := 0) rfl (nI_1 _) (by decide) rfl (fun ls hl => ?_)
      refine lv_goto (tgt := 108) hx hb dX7_init_125 (by decide) ?_
      exact ih (j + 1) H locs ls _ (by omega) hl hT.room (fun a ha => (xu_ne (by omega)).trans (hf a ha)) hP hS
  exact key 16 0 _ _ _ v20 (by omega) (lv_sub hl [0, 1] rfl) hTW hfr hP hS
