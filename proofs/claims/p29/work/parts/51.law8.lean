/-! the law: three times, and the start -/
set_option maxRecDepth 100000 in
set_option maxHeartbeats 1000000 in
/-- three times -/
theorem lw_times {p : Program} {l : Launch} {e : Env} {s : State} {m : MethodId} {below : List Frame} {meth : Method} {c : Code} {D : va_G} {cy : Nat → ClassId} {b L : Nat} {xs : Nat → Int32} (hC : LC D cy p s m c b L) (hr : meth.sig.returnType = ret) (hlocks : meth.locks = false) (hbs : b < s.heap.size) :
    ∀ (r ti : Nat) (H : Heap) (ls : Array Slot) (cells slots : Nat), ti + r = 3 → lv_has ls 17 [(0, .ref b), (1, .int (nI ti))] → va_X b L xs s H → s.heap.size ≤ H.size → cells ≤ 400 * ti → slots ≤ 1600 * ti → W p l e room_1 s m #[Value.ref b] below meth c H [] cells slots (lw_Z below #[Value.ref b] s) (F0 m 2 ls []) := by
  obtain ⟨hx, hb, hml, hown, hts, hKI, hL⟩ := id hC
  have hK : KK D cy s := hKI.1
  intro r
  induction r with
  | zero =>
    intro ti H ls cells slots hti hl hX hsz hce hsl
    have hti : ti = 3 := by omega
    subst hti
    refine lv_iload_n hx hb dL_law_2 rfl (lv_at hl 1 rfl) ?_
    refine lv_iconst (v := 3) hx hb dL_law_3 (by decide) ?_
    refine lv_icmp_ge (tgt := 561) hx hb dL_law_4 (by decide) (fun _ => ?_) (fun c9 => absurd (show nI 3 ≤ nI 3 by decide) c9)
    refine lv_iconst (v := 1) hx hb dL_law_561 (by decide) ?_
    refine W.widen (k := 789567) (n := 6732998) (by omega) (by omega) ?_
    exact lw_ret hx hb hr hlocks dL_law_562
  | succ r ih =>
    intro ti H ls cells slots hti hl hX hsz hce hsl
    have hti3 : ti < 3 := by omega
    obtain ⟨lo, hlo⟩ : ∃ lo, lo = H.size := ⟨_, rfl⟩
    have hbl : b < lo := by omega
    have hS : va_S (fun q : Nat => lo ≤ q) H H [] := va_S.rf
    obtain ⟨w, -⟩ : ∃ w : Nat → va_E, w = w := ⟨fun _ => .inr (0, []), rfl⟩
    have hP : va_P D vwCl (rl lo 0 w) H := rl_P (fun a h1 h2 => absurd h2 (by omega))
    have hz : H.size = lo + 0 := by omega
    have ed : 31 * nI ti + 7 = nI (31 * ti + 7) := by
      have k : ∀ i, i < 3 → (31 : Int32) * nI i + 7 = nI (31 * i + 7) := by decide +kernel
      exact k ti hti3
    have hdd : 31 * ti + 7 < 100 := by omega
    refine lv_iload_n hx hb dL_law_2 rfl (lv_at hl 1 rfl) ?_
    refine lv_iconst (v := 3) hx hb dL_law_3 (by decide) ?_
    refine lv_icmp_ge (tgt := 561) hx hb dL_law_4 (by decide) (fun c9 => absurd ((nI_leI (a := 3) (b := ti) (by omega) (by omega)).mp c9) (by omega)) (fun _ => ?_)
    obtain ⟨t, ht⟩ : ∃ q, q = lo + 0 := ⟨_, rfl⟩
    refine x_newZ (C := RX7) (T := TX7) (N := 13) (ci := 7) (fs := [.null, .null, .int 0, .null, .null, .null, .null, .null, .int 0, .int 0, .int 0, .int 0, .null]) (q0 := t) hx hb hts inlX7 tyX7 tyX7_ok hown (hts (.classLink RL 9 RX7) (by decide +kernel)) (hts (.instantiable RX7 13) (by decide +kernel)) (hts (.initialized RX7) (by decide +kernel)) hK.1 hP hS hz ht rfl (fun j hj => by rcases (by omega : j = 0 ∨ j = 1 ∨ j = 2 ∨ j = 3 ∨ j = 4 ∨ j = 5 ∨ j = 6 ∨ j = 7 ∨ j = 8 ∨ j = 9 ∨ j = 10 ∨ j = 11 ∨ j = 12) with rfl | rfl | rfl | rfl | rfl | rfl | rfl | rfl | rfl | rfl | rfl | rfl | rfl <;> rfl) (by show cells + 1 ≤ 789567; omega) (by show slots + 13 ≤ 6732998; omega) dL_law_7 (fun H hz hP hS => ?_)
    refine lv_dup hx hb dL_law_10 rfl ?_
    refine lv_aload_n hx hb dL_law_11 rfl (lv_at hl 0 rfl) ?_
    refine lv_bipush (v := 31) hx hb dL_law_12 (by decide) ?_
    refine lv_iload_n hx hb dL_law_14 rfl (lv_at hl 1 rfl) ?_
    refine lv_imul hx hb dL_law_15 ?_
    refine lv_bipush (v := 7) hx hb dL_law_16 (by decide) ?_
    refine lv_iadd hx hb dL_law_18 ?_
    rw [ed]
    generalize hdq : 31 * ti + 7 = dd at hdd
    refine x_callN (va_runI (As := [.ref b, .int (nI dd)]) (rest := [.ref t]) ⟨hx, hb, hml, hown, hts⟩ (c_X7_init l D cy lo (0 + 1) w t b dd (fun _ => 0) (by omega) (by omega) (by omega)) (cwI 2 hts gL_law_X7_init rfl rfl rfl (hts (.initialized RX7) (by decide +kernel)) (hts (.methodLink RL 11 yX7_init) (by decide +kernel)) (hts (.instanceMethod yX7_init) (by decide +kernel)) rfl (by decide +kernel) ⟨Nat.le_of_ble_eq_true rfl, Nat.le_of_ble_eq_true rfl⟩) (preSN hz hP hKI) rfl rfl hl.1 rfl (lv_room (Nat.le_of_ble_eq_true rfl)) dL_law_19 ⟨by show cells + 1 + 156 ≤ 789567; omega, by show slots + 13 + 628 ≤ 6732998; omega⟩) hS (fun u1 H locs hX1 hP hz hS => ?_)
    obtain ⟨hTt, -⟩ := hX1
    refine lv_astore_n (lv' := [(2, .ref t), (0, .ref b), (1, .int (nI ti))]) hx hb dL_law_22 rfl hl (by decide) rfl (fun ls hl => ?_)
    obtain ⟨o, ho⟩ : ∃ q, q = lo + 157 := ⟨_, rfl⟩
    refine x_newZ (C := RX7) (T := TX7) (N := 13) (ci := 7) (fs := [.null, .null, .int 0, .null, .null, .null, .null, .null, .int 0, .int 0, .int 0, .int 0, .null]) (q0 := o) hx hb hts inlX7 tyX7 tyX7_ok hown (hts (.classLink RL 9 RX7) (by decide +kernel)) (hts (.instantiable RX7 13) (by decide +kernel)) (hts (.initialized RX7) (by decide +kernel)) hK.1 hP hS hz ho rfl (fun j hj => by rcases (by omega : j = 0 ∨ j = 1 ∨ j = 2 ∨ j = 3 ∨ j = 4 ∨ j = 5 ∨ j = 6 ∨ j = 7 ∨ j = 8 ∨ j = 9 ∨ j = 10 ∨ j = 11 ∨ j = 12) with rfl | rfl | rfl | rfl | rfl | rfl | rfl | rfl | rfl | rfl | rfl | rfl | rfl <;> rfl) (by show cells + 1 + 156 + 1 ≤ 789567; omega) (by show slots + 13 + 628 + 13 ≤ 6732998; omega) dL_law_23 (fun H hz hP hS => ?_)
    refine lv_dup hx hb dL_law_26 rfl ?_
    refine lv_aload_n hx hb dL_law_27 rfl (lv_at hl 1 rfl) ?_
    refine lv_bipush (v := 31) hx hb dL_law_28 (by decide) ?_
    refine lv_iload_n hx hb dL_law_30 rfl (lv_at hl 2 rfl) ?_
    refine lv_imul hx hb dL_law_31 ?_
    refine lv_bipush (v := 7) hx hb dL_law_32 (by decide) ?_
    refine lv_iadd hx hb dL_law_34 ?_
    rw [ed, hdq]
    refine x_callN (va_runI (As := [.ref b, .int (nI dd)]) (rest := [.ref o]) ⟨hx, hb, hml, hown, hts⟩ (c_X7_init l D cy lo (157 + 1) u1 o b dd (fun _ => 0) (by omega) (by omega) (by omega)) (cwI 2 hts gL_law_X7_init rfl rfl rfl (hts (.initialized RX7) (by decide +kernel)) (hts (.methodLink RL 11 yX7_init) (by decide +kernel)) (hts (.instanceMethod yX7_init) (by decide +kernel)) rfl (by decide +kernel) ⟨Nat.le_of_ble_eq_true rfl, Nat.le_of_ble_eq_true rfl⟩) (preSN hz hP hKI) rfl rfl hl.1 rfl (lv_room (Nat.le_of_ble_eq_true rfl)) dL_law_35 ⟨by show cells + 1 + 156 + 1 + 156 ≤ 789567; omega, by show slots + 13 + 628 + 13 + 628 ≤ 6732998; omega⟩) hS (fun u2 H locs hX2 hP hz hS => ?_)
    obtain ⟨hTo, hfr⟩ := hX2
    have hTt : TW cy u2 (fun a => t ≤ a ∧ a < t + 157) lo (157 + 1 + 156) t b dd (t + 154) (fun _ => 0) 0 G0 G0 P0 := (hTt.frame (fun a ha => hfr a (by omega))).more (by omega)
    refine lv_astore_n (lv' := [(3, .ref o), (2, .ref t), (0, .ref b), (1, .int (nI ti))]) hx hb dL_law_38 rfl hl (by decide) rfl (fun ls hl => ?_)
    refine lv_aload_n hx hb dL_law_39 rfl (lv_at hl 1 rfl) ?_
    refine x_get (ref := RX7) (C := RX7) (T := TX7) (N := 13) (ci := 7) (v := .ref (t + 1)) hx hb hts inlX7 hown hK.1 hP (by omega) (by omega) hTt.obj rfl 0 (by decide) (hts (.fieldLink RL 14 "PoreFieldLaw$Told" "m" "LPoreField;") (by decide +kernel)) (fun _ h9 => h9) rfl dL_law_40 ?_
    refine lv_astore (lv' := [(4, .ref (t + 1)), (3, .ref o), (2, .ref t), (0, .ref b), (1, .int (nI ti))]) hx hb dL_law_43 hl (by decide) rfl (fun ls hl => ?_)
    have hG0 : ∀ i, G0 (37 + 2 * i) 2 = 0 ∧ G0 (37 + 2 * i) 3 = 5 := fun i => by
      rw [G0_w, G0_w, if_neg (by omega), if_pos rfl]
      exact ⟨rfl, rfl⟩
    have hP0 : ∀ i, i < 6 → P0 (103 + 2 * i) 0 = 0 ∧ P0 (103 + 2 * i) 1 = 0 := fun i hi => by
      unfold P0
      rw [if_neg (by omega), if_neg (by omega), if_neg (by omega), if_neg (by omega), if_neg (by omega), if_neg (by omega)]
      exact ⟨rfl, rfl⟩
    refine lv_aload_n hx hb dL_law_45 rfl (lv_at hl 2 rfl) ?_
    refine lv_iconst (v := 3) hx hb dL_law_46 (by decide) ?_
    refine x_callz (va_runV (As := [.int 3]) (rest := []) ⟨hx, hb, hml, hown, hts⟩ (c_X7_found l D cy lo (157 + 1 + 156) u2 b L xs hbl hL _ t dd (t + 154) _ G0 G0 P0 hTt gi_G0 hG0 hP0 (by omega)) (cwV 1 hts gL_law_X7_found rfl rfl rfl (by decide +kernel) ⟨Nat.le_of_ble_eq_true rfl, Nat.le_of_ble_eq_true rfl⟩) (preVZ hP hK (x_scrH hX hbl hS) hz (x_recv (ci := 7) (q := (RX7, TX7, 13)) hK.1 hP (by omega) (by omega) rfl hTt.obj)) rfl rfl hl.1 rfl (lv_room (Nat.le_of_ble_eq_true rfl)) dL_law_47 ⟨by show cells + 1 + 156 + 1 + 156 + 22 ≤ 789567; omega, by show slots + 13 + 628 + 13 + 628 + 120 ≤ 6732998; omega⟩) hS (fun v3 n3 u3 H locs hX3 hP hz hS => ?_)
    obtain ⟨rfl, hn3, A1, wo1, wr1, hF1⟩ := hX3
    have hTo : TW cy u3 (fun a => o ≤ a ∧ a < o + 157) lo n3 o b dd (o + 154) (fun _ => 0) 0 G0 G0 P0 := (hTo.frame (fun a ha => hF1.2.2.2.2.2.1 a (fun q => (hF1.2.2.2.2.1 a q).elim (fun h => by omega) (fun h => by omega)))).more hF1.2.2.2.2.2.2
    refine lv_if_eq (tgt := 61) hx hb dL_law_50 (by decide) (fun h => absurd h (by decide)) (fun _ => ?_)
    refine lv_aload_n hx hb dL_law_53 rfl (lv_at hl 1 rfl) ?_
    refine lv_iconst (v := 3) hx hb dL_law_54 (by decide) ?_
    have hto := hTo.tb
    refine x_callz (va_runV (As := [.int 3]) (rest := []) ⟨hx, hb, hml, hown, hts⟩ (c_X7_found l D cy lo n3 u3 b L xs hbl hL _ o dd (o + 154) _ G0 G0 P0 hTo gi_G0 hG0 hP0 (by omega)) (cwV 1 hts gL_law_X7_found rfl rfl rfl (by decide +kernel) ⟨Nat.le_of_ble_eq_true rfl, Nat.le_of_ble_eq_true rfl⟩) (preVZ hP hK (x_scrH hX hbl hS) hz (x_recv (ci := 7) (q := (RX7, TX7, 13)) hK.1 hP (by omega) (by omega) rfl hTo.obj)) rfl rfl hl.1 rfl (lv_room (Nat.le_of_ble_eq_true rfl)) dL_law_55 ⟨by show cells + 1 + 156 + 1 + 156 + 22 + 22 ≤ 789567; omega, by show slots + 13 + 628 + 13 + 628 + 120 + 120 ≤ 6732998; omega⟩) hS (fun v4 n4 u4 H locs hX4 hP hz hS => ?_)
    obtain ⟨rfl, hn4, A2, wo2, wr2, hF2⟩ := hX4
    have hdis : ∀ a, A1 a → ¬ A2 a := fun a h1 h2 => by
      have q1 := (hF1.1.inn a h1).2
      rcases hF2.2.2.2.2.1 a h2 with h | h
      · rcases hF1.2.2.2.2.1 a h1 with h' | h'
        · omega
        · omega
      · omega
    have hTt : TW cy u4 A1 lo n4 t b (m_found L xs dd G0).2 wo1 wr1 3 (m_found L xs dd G0).1 G0 P0 := (hF1.1.frame (fun a ha => hF2.2.2.2.2.2.1 a (hdis a ha))).more hF2.2.2.2.2.2.2
    have hI : LI cy u4 A1 A2 lo n4 t o b (m_found L xs dd G0).2 (m_found L xs dd G0).2 wo1 wr1 wo2 wr2 (m_found L xs dd G0).1 G0 G0 P0 := ⟨hTt, hF2.1, hdis, hF2.2.1, pb_P0 (by omega)⟩
    have hdf := found_d (L := L) (xs := xs) (d := dd) (G := G0)
    have hwf := found_wi (L := L) (xs := xs) (d := dd)
    refine lv_if_ne (tgt := 63) hx hb dL_law_58 (by decide) (fun _ => ?_) (fun h => absurd h (by decide))
    refine lv_iconst (v := 0) hx hb dL_law_63 (by decide) ?_
    refine lv_istore (lv' := [(5, .int (0 : Int32)), (4, .ref (t + 1)), (3, .ref o), (2, .ref t), (0, .ref b), (1, .int (nI ti))]) hx hb dL_law_64 hl (by decide) rfl (fun ls hl => ?_)
    refine lw_ks (ti := ti) (t := t) (o := o) hC (by show cells + 1 + 156 + 1 + 156 + 22 + 22 ≤ 700000; omega) (by show slots + 13 + 628 + 13 + 628 + 120 + 120 ≤ 6000000; omega) hX hbl (m_found L xs dd G0).2 (by omega) (fun H locs ls hl hS => ?_) 7 0 H locs ls u4 _ _ G0 G0 P0 (by omega) hI ⟨4752, hwf, by omega⟩ ⟨0, by omega, rfl⟩ (by omega) (lv_sub hl [4, 5, 3, 2, 1, 0] rfl) hP hS
    refine lv_iinc (v := (nI (ti + 1))) (lv' := [(1, .int (nI (ti + 1))), (0, .ref b)]) hx hb dL_law_555 hl (k := 1) rfl (nI_1 _) (by decide) rfl (fun ls hl => ?_)
    refine lv_goto (tgt := 2) hx hb dL_law_558 (by decide) ?_
    refine va_forget (fun q hq => Nat.le_trans (by omega) (hS.2.2 q hq)) ?_
    exact ih (ti + 1) H ls _ _ (by omega) (lv_sub hl [1, 0] rfl) (x_scrH hX hbl hS) (Nat.le_trans hsz hS.1) (by omega) (by omega)
theorem in_t1 {w : Cond} (i : Nat) (h : lw_tbl[i]? = some w) : w ∈ lw_tbl := List.mem_of_getElem? h
theorem AOA.of {t : FieldType} {A : Array Value} {U : State} (h : (Cond.arrayOver (.array t)).before A U = true) : AOA t U := h
theorem K_prim {U : State} {A : Array Value} {ty : FieldType} (hp : ∀ C, ty ≠ .object C) (h : (Cond.arrayClass ty).before A U = true) : ∃ c, ArrOfT U c ty ∧ va_RA U c ty := by
  obtain ⟨c, k, comp, h1, h2, h3⟩ := Cond.arrayClass_spec h
  refine ⟨c, fun n z => ⟨(fun k h => by cases h), k, h2, comp, h3⟩, ?_⟩
  cases ty with
  | object C => exact absurd rfl (hp C)
  | _ => exact h1
theorem K_obj {U : State} {A : Array Value} {C : String} (h : (Cond.arrayOver (.object C)).before A U = true) : ∃ c, ArrOfT U c (.object C) ∧ va_RA U c (.object C) := by
  obtain ⟨comp, c, k, h1, -, h3, h4, h5⟩ := Cond.arrayOver_spec h
  exact ⟨c, fun n z => ⟨(fun k h => by cases h), k, h3, comp, h4⟩, k, comp, h3, h4, h1, h5⟩
theorem K_arr {U : State} {A : Array Value} {t : FieldType} (h : (Cond.arrayOver (.array t)).before A U = true) : ∃ c, ArrOfT U c (.array t) ∧ va_RA U c (.array t) := by
  obtain ⟨comp, c, k, h1, -, h3, h4, h5⟩ := arrayOverA_spec h
  exact ⟨c, fun n z => ⟨(fun k h => by cases h), k, h3, comp, h4⟩, h5⟩
set_option maxRecDepth 100000 in
set_option maxHeartbeats 1000000 in
theorem KI_of {s : State} {A : Array Value} (hts : ∀ w ∈ lw_tbl, w.before A s = true) : ∃ (D : va_G) (cy : Nat → ClassId), KI D cy s := by
  obtain ⟨c0, i0, k0⟩ := u_known (C := RX0) (T := TX0) (N := 8) (n := 8) hts wl_wsX00 (hts (.instantiable RX0 8) (in_t1 482 (by decide +kernel)))
  obtain ⟨c1, i1, k1⟩ := u_known (C := RX1) (T := TX1) (N := 4) (n := 4) hts wl_wsX10 (hts (.instantiable RX1 4) (in_t1 215 (by decide +kernel)))
  obtain ⟨c2, i2, k2⟩ := u_known (C := RX2) (T := TX2) (N := 12) (n := 12) hts wl_wsX20 (hts (.instantiable RX2 12) (in_t1 180 (by decide +kernel)))
  obtain ⟨c3, i3, k3⟩ := u_known (C := RX3) (T := TX3) (N := 4) (n := 4) hts wl_wsX30 (hts (.instantiable RX3 4) (in_t1 535 (by decide +kernel)))
  obtain ⟨c4, i4, k4⟩ := u_known (C := RX4) (T := TX4) (N := 5) (n := 5) hts wl_wsX40 (hts (.instantiable RX4 5) (in_t1 398 (by decide +kernel)))
  obtain ⟨c5, i5, k5⟩ := u_known (C := RX5) (T := TX5) (N := 5) (n := 5) hts wl_wsX50 (hts (.instantiable RX5 5) (in_t1 513 (by decide +kernel)))
  obtain ⟨c6, i6, k6⟩ := u_known (C := RX6) (T := TX6) (N := 11) (n := 11) hts wl_wsX60 (hts (.instantiable RX6 11) (in_t1 151 (by decide +kernel)))
  obtain ⟨c7, i7, k7⟩ := u_known (C := RX7) (T := TX7) (N := 13) (n := 13) hts wl_wsX70 (hts (.instantiable RX7 13) (in_t1 358 (by decide +kernel)))
  obtain ⟨dC, dI, hKc⟩ : ∃ (dC : Nat → ClassId) (dI : Nat → Nat → Nat), ∀ (k : Nat) (q : vw_C), vwCl[k]? = some q → u_Kn s q.1 q.2.1 q.2.2 (dC k) (dI k) := by
    refine ⟨fun k => if k = 0 then c0 else if k = 1 then c1 else if k = 2 then c2 else if k = 3 then c3 else if k = 4 then c4 else if k = 5 then c5 else if k = 6 then c6 else c7, fun k => if k = 0 then i0 else if k = 1 then i1 else if k = 2 then i2 else if k = 3 then i3 else if k = 4 then i4 else if k = 5 then i5 else if k = 6 then i6 else i7, ?_⟩
    intro k q hq
    match k, hq with
    | 0, hq => cases hq; exact k0
    | 1, hq => cases hq; exact k1
    | 2, hq => cases hq; exact k2
    | 3, hq => cases hq; exact k3
    | 4, hq => cases hq; exact k4
    | 5, hq => cases hq; exact k5
    | 6, hq => cases hq; exact k6
    | 7, hq => cases hq; exact k7
    | k + 8, hq => simp at hq
  obtain ⟨a0, r0⟩ := K_prim (ty := .int) (fun _ h => by cases h) (hts (.arrayClass .int) (in_t1 397 (by decide +kernel)))
  obtain ⟨a5, r5⟩ := K_prim (ty := .boolean) (fun _ h => by cases h) (hts (.arrayClass .boolean) (in_t1 633 (by decide +kernel)))
  obtain ⟨a1, r1⟩ := K_obj (C := RX1) (hts (.arrayOver (.object RX1)) (in_t1 374 (by decide +kernel)))
  obtain ⟨a2, r2⟩ := K_obj (C := RX4) (hts (.arrayOver (.object RX4)) (in_t1 376 (by decide +kernel)))
  obtain ⟨a3, r3⟩ := K_obj (C := RX5) (hts (.arrayOver (.object RX5)) (in_t1 478 (by decide +kernel)))
  obtain ⟨a4, r4⟩ := K_obj (C := RX3) (hts (.arrayOver (.object RX3)) (in_t1 480 (by decide +kernel)))
  obtain ⟨a6, r6⟩ := K_arr (t := .int) (hts (.arrayOver (.array .int)) (in_t1 588 (by decide +kernel)))
  obtain ⟨a7, r7⟩ := K_arr (t := .boolean) (hts (.arrayOver (.array .boolean)) (in_t1 590 (by decide +kernel)))
  obtain ⟨cy, hcy⟩ : ∃ cy : Nat → ClassId, ∀ (k : Nat) (q : ClassId × FieldType), (tyL cy)[k]? = some q → ArrOfT s q.1 q.2 ∧ va_RA s q.1 q.2 := by
    refine ⟨fun k => if k = 0 then a0 else if k = 1 then a1 else if k = 2 then a2 else if k = 3 then a3 else if k = 4 then a4 else if k = 5 then a5 else if k = 6 then a6 else a7, ?_⟩
    intro k q hq
    match k, hq with
    | 0, hq => cases hq; exact r0
    | 1, hq => cases hq; exact r1
    | 2, hq => cases hq; exact r2
    | 3, hq => cases hq; exact r3
    | 4, hq => cases hq; exact r4
    | 5, hq => cases hq; exact r5
    | 6, hq => cases hq; exact r6
    | 7, hq => cases hq; exact r7
    | k + 8, hq => simp [tyL] at hq
  have nw : ∀ {w : Cond} (_ : w.onTables = true) (_ : w ∈ lw_tbl), va_Nw w s := fun h1 h2 => va_tabs h1 rfl (hts _ h2)
  exact ⟨(dC, dI), cy, ⟨⟨hKc, hcy⟩, nw rfl (in_t1 242 (by decide +kernel)), nw rfl (in_t1 638 (by decide +kernel)), nw rfl (in_t1 642 (by decide +kernel)), AOA.of (hts (.arrayOver (.array .int)) (in_t1 588 (by decide +kernel))), AOA.of (hts (.arrayOver (.array .boolean)) (in_t1 590 (by decide +kernel)))⟩, ⟨nw rfl (in_t1 377 (by decide +kernel)), nw rfl (in_t1 399 (by decide +kernel)), nw rfl (in_t1 483 (by decide +kernel)), nw rfl (in_t1 514 (by decide +kernel)), nw rfl (in_t1 536 (by decide +kernel))⟩, va_AO.of (hts (.arrayOver (.object RX1)) (in_t1 374 (by decide +kernel))), va_AO.of (hts (.arrayOver (.object RX4)) (in_t1 376 (by decide +kernel))), va_AO.of (hts (.arrayOver (.object RX5)) (in_t1 478 (by decide +kernel))), va_AO.of (hts (.arrayOver (.object RX3)) (in_t1 480 (by decide +kernel)))⟩
set_option maxRecDepth 100000 in
set_option maxHeartbeats 1000000 in
/-- from the entry to the end -/
theorem whole_start {p : Program} {e : Env} {s : State} {m : MethodId} {below : List Frame} {meth : Method} {c : Code} (l : Launch) (hflags : l.flags = flags0) {b L : Nat} {xs : Nat → Int32} (hL : L ≤ 260) (C0 : lw_At p s m meth c b L xs) : W p l e room_1 s m #[Value.ref b] below meth c s.heap [] 0 0 (lw_Z below #[Value.ref b] s) (entryFrame m ([Value.ref b] : List Value).toArray 17) := by
  obtain ⟨hx, hb, hr, hml, hown, hts, hX, hbl, hlocks, hgv⟩ := id C0
  obtain ⟨D, cy, hKI⟩ := KI_of hts
  have hC : LC D cy p s m c b L := ⟨hx, hb, hml, hown, fun w hw => hts w (wl_law w hw), hKI, hL⟩
  have hl := lv_entry ([.ref b]) (n := 17) (Nat.le_of_ble_eq_true rfl)
  rw [lg_entry_eq]
  generalize (lg_sl ([.ref b]) ++ List.replicate (17 - (lg_sl ([.ref b])).length) Slot.unset).toArray = ls at hl ⊢
  have hl : lv_has ls 17 [(0, .ref b)] := hl
  refine lv_iconst (v := 0) hx hb dL_law_0 (by decide) ?_
  refine lv_istore_n (lv' := [(1, .int (0 : Int32)), (0, .ref b)]) hx hb dL_law_1 rfl hl (by decide) rfl (fun ls hl => ?_)
  exact lw_times hC hr hlocks hbl 3 0 s.heap ls 0 0 (by omega) (lv_sub hl [1, 0] rfl) hX (Nat.le_refl _) (by omega) (by omega)
