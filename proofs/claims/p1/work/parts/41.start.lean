/-! the start -/
theorem in_t1 {w : Cond} (i : Nat) (h : lw_tbl[i]? = some w) : w ∈ lw_tbl := List.mem_of_getElem? h
theorem AOA.of {t : FieldType} {A : Array Value} {U : State} (h : (Cond.arrayOver (.array t)).before A U = true) : AOA t U := h
theorem K_prim {U : State} {A : Array Value} {ty : FieldType} (hp : ∀ C, ty ≠ .object C) (h : (Cond.arrayClass ty).before A U = true) : ∃ c, ArrOfT U c ty ∧ va_RA U c ty := by
  obtain ⟨c, k, comp, h1, h2, h3⟩ := Cond.arrayClass_spec h
  refine ⟨c, fun n z => ⟨(fun k h => by cases h), k, h2, comp, h3⟩, ?_⟩
  cases ty with
  | object C => exact absurd rfl (hp C)
  | _ => exact h1
theorem K_obj {U : State} {A : Array Value} {C : String} (h : (Cond.arrayOver (.object C)).before A U = true) : ∃ c, ArrOfT U c (.object C) ∧ va_RA U c (.object C) := by
  obtain ⟨comp, c, k, h1, -, h3, h4, h5⟩ := Cond.arrayOver_spec h
  exact ⟨c, fun n z => ⟨(fun k h => by cases h), k, h3, comp, h4⟩, k, comp, h3, h4, h1, h5⟩
theorem K_arr {U : State} {A : Array Value} {t : FieldType} (h : (Cond.arrayOver (.array t)).before A U = true) : ∃ c, ArrOfT U c (.array t) ∧ va_RA U c (.array t) := by
  obtain ⟨comp, c, k, h1, -, h3, h4, h5⟩ := arrayOverA_spec h
  exact ⟨c, fun n z => ⟨(fun k h => by cases h), k, h3, comp, h4⟩, h5⟩
set_option maxRecDepth 100000 in
set_option maxHeartbeats 1000000 in
theorem KI_of {s : State} {A : Array Value} (hts : ∀ w ∈ lw_tbl, w.before A s = true) : ∃ (D : va_G) (cy : Nat → ClassId), KI D cy s := by
  obtain ⟨c0, i0, k0⟩ := u_known (C := RX0) (T := TX0) (N := 8) (n := 8) hts wl_wsX00 (hts (.instantiable RX0 8) (in_t1 174 (by decide +kernel)))
  obtain ⟨c1, i1, k1⟩ := u_known (C := RX1) (T := TX1) (N := 4) (n := 4) hts wl_wsX10 (hts (.instantiable RX1 4) (in_t1 68 (by decide +kernel)))
  obtain ⟨c2, i2, k2⟩ := u_known (C := RX2) (T := TX2) (N := 12) (n := 12) hts wl_wsX20 (hts (.instantiable RX2 12) (in_t1 59 (by decide +kernel)))
  obtain ⟨c3, i3, k3⟩ := u_known (C := RX3) (T := TX3) (N := 4) (n := 4) hts wl_wsX30 (hts (.instantiable RX3 4) (in_t1 227 (by decide +kernel)))
  obtain ⟨c4, i4, k4⟩ := u_known (C := RX4) (T := TX4) (N := 5) (n := 5) hts wl_wsX40 (hts (.instantiable RX4 5) (in_t1 90 (by decide +kernel)))
  obtain ⟨c5, i5, k5⟩ := u_known (C := RX5) (T := TX5) (N := 5) (n := 5) hts wl_wsX50 (hts (.instantiable RX5 5) (in_t1 205 (by decide +kernel)))
  obtain ⟨c6, i6, k6⟩ := u_known (C := RX6) (T := TX6) (N := 11) (n := 11) hts wl_wsX60 (hts (.instantiable RX6 11) (in_t1 51 (by decide +kernel)))
  obtain ⟨c7, i7, k7⟩ := u_known (C := RX7) (T := TX7) (N := 14) (n := 14) hts wl_wsX70 (hts (.instantiable RX7 14) (in_t1 732 (by decide +kernel)))
  obtain ⟨c8, i8, k8⟩ := u_known (C := RX8) (T := TX8) (N := 8) (n := 8) hts wl_wsX80 (hts (.instantiable RX8 8) (in_t1 726 (by decide +kernel)))
  obtain ⟨dC, dI, hKc⟩ : ∃ (dC : Nat → ClassId) (dI : Nat → Nat → Nat), ∀ (k : Nat) (q : vw_C), vwCl[k]? = some q → u_Kn s q.1 q.2.1 q.2.2 (dC k) (dI k) := by
    refine ⟨fun k => if k = 0 then c0 else if k = 1 then c1 else if k = 2 then c2 else if k = 3 then c3 else if k = 4 then c4 else if k = 5 then c5 else if k = 6 then c6 else if k = 7 then c7 else c8, fun k => if k = 0 then i0 else if k = 1 then i1 else if k = 2 then i2 else if k = 3 then i3 else if k = 4 then i4 else if k = 5 then i5 else if k = 6 then i6 else if k = 7 then i7 else i8, ?_⟩
    intro k q hq
    match k, hq with
    | 0, hq => cases hq; exact k0
    | 1, hq => cases hq; exact k1
    | 2, hq => cases hq; exact k2
    | 3, hq => cases hq; exact k3
    | 4, hq => cases hq; exact k4
    | 5, hq => cases hq; exact k5
    | 6, hq => cases hq; exact k6
    | 7, hq => cases hq; exact k7
    | 8, hq => cases hq; exact k8
    | k + 9, hq => simp at hq
  obtain ⟨a0, r0⟩ := K_prim (ty := .int) (fun _ h => by cases h) (hts (.arrayClass .int) (in_t1 89 (by decide +kernel)))
  obtain ⟨a5, r5⟩ := K_prim (ty := .boolean) (fun _ h => by cases h) (hts (.arrayClass .boolean) (in_t1 794 (by decide +kernel)))
  obtain ⟨a7, r7⟩ := K_prim (ty := .long) (fun _ h => by cases h) (hts (.arrayClass .long) (in_t1 1046 (by decide +kernel)))
  obtain ⟨a1, r1⟩ := K_obj (C := RX1) (hts (.arrayOver (.object RX1)) (in_t1 65 (by decide +kernel)))
  obtain ⟨a2, r2⟩ := K_obj (C := RX4) (hts (.arrayOver (.object RX4)) (in_t1 67 (by decide +kernel)))
  obtain ⟨a3, r3⟩ := K_obj (C := RX5) (hts (.arrayOver (.object RX5)) (in_t1 170 (by decide +kernel)))
  obtain ⟨a4, r4⟩ := K_obj (C := RX3) (hts (.arrayOver (.object RX3)) (in_t1 172 (by decide +kernel)))
  obtain ⟨a6, r6⟩ := K_arr (t := .int) (hts (.arrayOver (.array .int)) (in_t1 738 (by decide +kernel)))
  obtain ⟨cy, hcy⟩ : ∃ cy : Nat → ClassId, ∀ (k : Nat) (q : ClassId × FieldType), (tyL cy)[k]? = some q → ArrOfT s q.1 q.2 ∧ va_RA s q.1 q.2 := by
    refine ⟨fun k => if k = 0 then a0 else if k = 1 then a1 else if k = 2 then a2 else if k = 3 then a3 else if k = 4 then a4 else if k = 5 then a5 else if k = 6 then a6 else a7, ?_⟩
    intro k q hq
    match k, hq with
    | 0, hq => cases hq; exact r0
    | 1, hq => cases hq; exact r1
    | 2, hq => cases hq; exact r2
    | 3, hq => cases hq; exact r3
    | 4, hq => cases hq; exact r4
    | 5, hq => cases hq; exact r5
    | 6, hq => cases hq; exact r6
    | 7, hq => cases hq; exact r7
    | k + 8, hq => simp [tyL] at hq
  have nw : ∀ {w : Cond} (_ : w.onTables = true) (_ : w ∈ lw_tbl), va_Nw w s := fun h1 h2 => va_tabs h1 rfl (hts _ h2)
  exact ⟨(dC, dI), cy, ⟨⟨hKc, hcy⟩, nw rfl (in_t1 375 (by decide +kernel)), AOA.of (hts (.arrayOver (.array .int)) (in_t1 738 (by decide +kernel)))⟩, ⟨nw rfl (in_t1 69 (by decide +kernel)), nw rfl (in_t1 91 (by decide +kernel)), nw rfl (in_t1 175 (by decide +kernel)), nw rfl (in_t1 206 (by decide +kernel)), nw rfl (in_t1 228 (by decide +kernel))⟩, va_AO.of (hts (.arrayOver (.object RX1)) (in_t1 65 (by decide +kernel))), va_AO.of (hts (.arrayOver (.object RX4)) (in_t1 67 (by decide +kernel))), va_AO.of (hts (.arrayOver (.object RX5)) (in_t1 170 (by decide +kernel))), va_AO.of (hts (.arrayOver (.object RX3)) (in_t1 172 (by decide +kernel)))⟩
/-- what the Statement says of the start besides the tables -/
theorem YK_of {s : State} {A : Array Value} (hg : (Jvm.Cond.and given_1 narrow_1).before A s = true) (hts : ∀ w ∈ lw_tbl, w.before A s = true) : YK s := by
  have hs := flat_of_before _ hg
  exact ⟨va_Nw.of rfl (hts (.castable IOB IOB) (by decide +kernel)), va_Nw.of rfl (hts (.castable IAE IAE) (by decide +kernel)), va_Nc.of (hs (Cond.not (.castable IAE IOB)) (by decide +kernel))⟩
theorem ZQ_of {s : State} {A : Array Value} (hg : (Jvm.Cond.and given_1 narrow_1).before A s = true) (hts : ∀ w ∈ lw_tbl, w.before A s = true) : ZQ (fun q : Nat => s.heap.size ≤ q) s s.heap := by
  have hs := flat_of_before _ hg
  exact ⟨vx_Zqof (hts (.laysStatic Bundle.tN "UNASSIGNED_STACK" Bundle.steD) (by decide +kernel)) (hts (.initialized Bundle.tN) (by decide +kernel)) (hs (Cond.isRef (.static Bundle.tN "UNASSIGNED_STACK" Bundle.steD)) (by decide +kernel)) (fun a h1 h2 => by omega),
    vx_Zqof (hts (.laysStatic Bundle.tN "SUPPRESSED_SENTINEL" Bundle.listD) (by decide +kernel)) (hts (.initialized Bundle.tN) (by decide +kernel)) (hs (Cond.isRef (.static Bundle.tN "SUPPRESSED_SENTINEL" Bundle.listD)) (by decide +kernel)) (fun a h1 h2 => by omega)⟩
