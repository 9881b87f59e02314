/-! the cells of a Ground -/
def m_all (M : Mem) (i : Nat) : Int32 := M (6 + 2 * i) 0 + M (6 + 2 * i) 1 + M (6 + 2 * i) 2
def m_pressure (M : Mem) (i : Nat) : Int32 := 100 * m_all M i / M (5 + 2 * i) 0
def m_flow (M : Mem) (i f : Nat) : Int64 := if nI f = 2 then 2 * (M (6 + 2 * i) f).toInt64 else (M (6 + 2 * i) f).toInt64
def m_mostTimes (M : Mem) (i f : Nat) (x : Int32) : Int32 := if M (6 + 2 * i) f ≤ 0 then m_all M i else if x < M (6 + 2 * i) f then (((x.toInt64 + 1) * (m_all M i).toInt64 - 1) / m_flow M i f).toInt32 else m_all M i
def m_isShut (M : Mem) (i : Nat) (b : Int32) : Int32 := if b = 0 then M (5 + 2 * i) 3 else M (5 + 2 * i) 2
def m_shut (M : Mem) (i : Nat) (b x : Int32) : Mem := if b = 0 then u2 M (5 + 2 * i) 3 x else u2 M (5 + 2 * i) 2 x
def m_mv (M : Mem) (i f : Nat) (t al : Int32) : Int32 := (jminl (M (6 + 2 * i) f).toInt64 (m_flow M i f * (jmin t al).toInt64 / al.toInt64)).toInt32
def m_mvs (i : Nat) (t al : Int32) (k2 f : Nat) (M : Mem) : Mem := u2 (u2 M (6 + 2 * i) f (M (6 + 2 * i) f - m_mv M i f t al)) k2 f ((u2 M (6 + 2 * i) f (M (6 + 2 * i) f - m_mv M i f t al)) k2 f + m_mv M i f t al)
def m_moveOut (M : Mem) (i : Nat) (t : Int32) (k2 : Nat) : Mem := if 0 < m_all M i then fo (m_mvs i t (m_all M i) k2) 3 M else M
theorem toInt64_ne0 {x : Int32} (h : ¬ x = 0) : ¬ x.toInt64 = 0 := fun q => h (by
  have := congrArg Int64.toInt q
  rw [Int32.toInt_toInt64] at this
  exact Int32.toInt_inj.mp this)
theorem flow_ne0 {M : Mem} {i f : Nat} (h : 0 < M (6 + 2 * i) f) : ¬ m_flow M i f = 0 := by
  have h1 : (0 : Int) < (M (6 + 2 * i) f).toInt := Int32.lt_iff_toInt_lt.mp h
  have h2 : (M (6 + 2 * i) f).toInt < 2 ^ 31 := Int32.toInt_lt _
  unfold m_flow
  intro q
  have q1 := congrArg Int64.toInt q
  split at q1
  · rw [Int64.toInt_mul, Int32.toInt_toInt64] at q1
    have e2 : (2 : Int64).toInt = 2 := by decide
    have e0 : (0 : Int64).toInt = 0 := by decide
    rw [e2, e0, Int.bmod_eq_of_le (by omega) (by omega)] at q1
    omega
  · rw [Int32.toInt_toInt64] at q1
    have e0 : (0 : Int64).toInt = 0 := by decide
    omega
theorem pos_ne0 {x : Int32} (h : 0 < x) : ¬ x = 0 := fun q => by subst q; exact absurd h (by decide)

set_option maxRecDepth 100000 in
set_option maxHeartbeats 4000000 in
/-- Cell.all -/
theorem c_X1_all (l : Launch) (D : va_G) (cy : Nat → ClassId) (lo n : Nat) (w0 : Nat → va_E) (g : Nat) (M : Mem) (hg1 : lo ≤ g) (hg2 : g + 49 ≤ lo + n) (i : Nat) (hi : i < 16)  : Met l yX1_all wsX1_all ({ frames := 0, cells := 0, slots := 0, locals := 0 }) (PcW D cy lo n (gw cy w0 g M) [.ref (g + (5 + 2 * i))]) (QiW D lo n (gw cy w0 g M) (m_all M i)) 0 0 (fun q : Nat => lo ≤ q) := by
  refine Met.ofW (cc := cX1_all) (maxL := 1) (ret := (some .int)) (by decide) rfl ?_
  intro p e s m args below meth c s₁ B hml hv
  obtain ⟨rfl, hP, hK, hS⟩ := x_entry hv
  have hx := B.exec
  have hb := B.bytes
  have hr := B.returns
  have hts := atoms_spec (ws := wsX1_all) B.pre
  have hown : s.vm.findClass RX1 = some m.cls := findClass_of_methodNamed B.named
  have hlocks := B.notSynchronized
  have iX1 : ∀ w ∈ u_ws RX1 TX1 4, w ∈ wsX1_all := by decide +kernel
  have hl := lv_entry ([.ref (g + (5 + 2 * i))]) (n := 1) (Nat.le_of_ble_eq_true rfl)
  rw [lg_entry_eq]
  generalize (lg_sl ([.ref (g + (5 + 2 * i))]) ++ List.replicate (1 - (lg_sl ([.ref (g + (5 + 2 * i))])).length) Slot.unset).toArray = ls at hl ⊢
  have hl : lv_has ls 1 [(0, .ref (g + (5 + 2 * i)))] := hl
  refine lv_aload_n hx hb dX1_all_0 rfl (lv_at hl 0 rfl) ?_
  refine x_get (ref := RX1) (C := RX1) (T := TX1) (N := 4) (ci := 1) (v := .ref (g + (6 + 2 * i))) hx hb hts iX1 hown hK.1 hP (by omega) (by omega) (gw_cell (by omega)) rfl 1 (by decide) (hts (.fieldLink RX1 15 "PoreField$Cell" "fluids" "[I") (by decide +kernel)) (fun _ h9 => h9) rfl dX1_all_1 ?_
  refine lv_iconst (v := 0) hx hb dX1_all_4 (by decide) ?_
  refine x_iald hx hb hK.1 hP (by omega) (by omega) 0 (gw_row (gRow_fl (by omega))) rfl (cl_of_nI (i := 0) rfl (by omega)) (vp_in_of_nI (i := 0) rfl (by omega) (by omega)) dX1_all_5 ?_
  refine lv_aload_n hx hb dX1_all_6 rfl (lv_at hl 0 rfl) ?_
  refine x_get (ref := RX1) (C := RX1) (T := TX1) (N := 4) (ci := 1) (v := .ref (g + (6 + 2 * i))) hx hb hts iX1 hown hK.1 hP (by omega) (by omega) (gw_cell (by omega)) rfl 1 (by decide) (hts (.fieldLink RX1 15 "PoreField$Cell" "fluids" "[I") (by decide +kernel)) (fun _ h9 => h9) rfl dX1_all_7 ?_
  refine lv_iconst (v := 1) hx hb dX1_all_10 (by decide) ?_
  refine x_iald hx hb hK.1 hP (by omega) (by omega) 0 (gw_row (gRow_fl (by omega))) rfl (cl_of_nI (i := 1) rfl (by omega)) (vp_in_of_nI (i := 1) rfl (by omega) (by omega)) dX1_all_11 ?_
  refine lv_iadd hx hb dX1_all_12 ?_
  refine lv_aload_n hx hb dX1_all_13 rfl (lv_at hl 0 rfl) ?_
  refine x_get (ref := RX1) (C := RX1) (T := TX1) (N := 4) (ci := 1) (v := .ref (g + (6 + 2 * i))) hx hb hts iX1 hown hK.1 hP (by omega) (by omega) (gw_cell (by omega)) rfl 1 (by decide) (hts (.fieldLink RX1 15 "PoreField$Cell" "fluids" "[I") (by decide +kernel)) (fun _ h9 => h9) rfl dX1_all_14 ?_
  refine lv_iconst (v := 2) hx hb dX1_all_17 (by decide) ?_
  refine x_iald hx hb hK.1 hP (by omega) (by omega) 0 (gw_row (gRow_fl (by omega))) rfl (cl_of_nI (i := 2) rfl (by omega)) (vp_in_of_nI (i := 2) rfl (by omega) (by omega)) dX1_all_18 ?_
  refine lv_iadd hx hb dX1_all_19 ?_
  exact W.iret (v := (((M (6 + 2 * i) 0) + (M (6 + 2 * i) 1)) + (M (6 + 2 * i) 2))) hx hb hr (fun tE ht hW => ⟨⟨(((M (6 + 2 * i) 0) + (M (6 + 2 * i) 1)) + (M (6 + 2 * i) 2)), (), rfl, rfl, x_at ht (hP)⟩, hS.F ht⟩) hS.2.2 dX1_all_20

set_option maxRecDepth 100000 in
set_option maxHeartbeats 4000000 in
/-- Cell.pressure -/
theorem c_X1_pressure (l : Launch) (D : va_G) (cy : Nat → ClassId) (lo n : Nat) (w0 : Nat → va_E) (g : Nat) (M : Mem) (hg1 : lo ≤ g) (hg2 : g + 49 ≤ lo + n) (i : Nat) (hi : i < 16) (hr0 : ¬ M (5 + 2 * i) 0 = 0) : Met l yX1_pressure wsX1_pressure ({ frames := 1, cells := 0, slots := 0, locals := 20 }) (PcW D cy lo n (gw cy w0 g M) [.ref (g + (5 + 2 * i))]) (QiW D lo n (gw cy w0 g M) (m_pressure M i)) 0 0 (fun q : Nat => lo ≤ q) := by
  refine Met.ofW (cc := cX1_pressure) (maxL := 1) (ret := (some .int)) (by decide) rfl ?_
  intro p e s m args below meth c s₁ B hml hv
  obtain ⟨rfl, hP, hK, hS⟩ := x_entry hv
  have hx := B.exec
  have hb := B.bytes
  have hr := B.returns
  have hts := atoms_spec (ws := wsX1_pressure) B.pre
  have hown : s.vm.findClass RX1 = some m.cls := findClass_of_methodNamed B.named
  have hlocks := B.notSynchronized
  have iX1 : ∀ w ∈ u_ws RX1 TX1 4, w ∈ wsX1_pressure := by decide +kernel
  have hl := lv_entry ([.ref (g + (5 + 2 * i))]) (n := 1) (Nat.le_of_ble_eq_true rfl)
  rw [lg_entry_eq]
  generalize (lg_sl ([.ref (g + (5 + 2 * i))]) ++ List.replicate (1 - (lg_sl ([.ref (g + (5 + 2 * i))])).length) Slot.unset).toArray = ls at hl ⊢
  have hl : lv_has ls 1 [(0, .ref (g + (5 + 2 * i)))] := hl
  refine lv_bipush (v := 100) hx hb dX1_pressure_0 (by decide) ?_
  refine lv_aload_n hx hb dX1_pressure_2 rfl (lv_at hl 0 rfl) ?_
  refine x_calli (va_runV (As := []) (rest := [.int (100 : Int32)]) ⟨hx, hb, hml, hown, hts⟩ (c_X1_all l D cy lo n w0 g M (by omega) (by omega) i (by omega)) (cwV 0 hts gX1_pressure_X1_all rfl rfl rfl (by decide +kernel) ⟨Nat.le_of_ble_eq_true rfl, Nat.le_of_ble_eq_true rfl⟩) (preV hP hK (x_recv (ci := 1) (q := (RX1, TX1, 4)) hK.1 hP (by omega) (by omega) rfl (gw_cell (by omega)))) rfl rfl hl.1 rfl (lv_room (Nat.le_of_ble_eq_true rfl)) dX1_pressure_3 ⟨Nat.le_of_ble_eq_true rfl, Nat.le_of_ble_eq_true rfl⟩) hS (fun H locs hP hS => ?_)
  refine lv_imul hx hb dX1_pressure_6 ?_
  refine lv_aload_n hx hb dX1_pressure_7 rfl (lv_at hl 0 rfl) ?_
  refine x_get (ref := RX1) (C := RX1) (T := TX1) (N := 4) (ci := 1) (v := .int (M (5 + 2 * i) 0)) hx hb hts iX1 hown hK.1 hP (by omega) (by omega) (gw_cell (by omega)) rfl 0 (by decide) (hts (.fieldLink RX1 9 "PoreField$Cell" "room" "I") (by decide +kernel)) (fun _ h9 => h9) rfl dX1_pressure_8 ?_
  refine lv_idiv hx hb dX1_pressure_11 hr0 ?_
  exact W.iret (v := (((100 : Int32) * (m_all M i)) / (M (5 + 2 * i) 0))) hx hb hr (fun tE ht hW => ⟨⟨(((100 : Int32) * (m_all M i)) / (M (5 + 2 * i) 0)), (), rfl, rfl, x_at ht (hP)⟩, hS.F ht⟩) hS.2.2 dX1_pressure_12

set_option maxRecDepth 100000 in
set_option maxHeartbeats 4000000 in
/-- Cell.flow -/
theorem c_X1_flow (l : Launch) (D : va_G) (cy : Nat → ClassId) (lo n : Nat) (w0 : Nat → va_E) (g : Nat) (M : Mem) (hg1 : lo ≤ g) (hg2 : g + 49 ≤ lo + n) (i : Nat) (hi : i < 16) (f : Nat) (hf : f < 3) : Met l yX1_flow wsX1_flow ({ frames := 0, cells := 0, slots := 0, locals := 0 }) (PcW D cy lo n (gw cy w0 g M) [.ref (g + (5 + 2 * i)), .int (nI f)]) (QlW D lo n (gw cy w0 g M) (m_flow M i f)) 0 0 (fun q : Nat => lo ≤ q) := by
  refine Met.ofW (cc := cX1_flow) (maxL := 2) (ret := (some .long)) (by decide) rfl ?_
  intro p e s m args below meth c s₁ B hml hv
  obtain ⟨rfl, hP, hK, hS⟩ := x_entry hv
  have hx := B.exec
  have hb := B.bytes
  have hr := B.returns
  have hts := atoms_spec (ws := wsX1_flow) B.pre
  have hown : s.vm.findClass RX1 = some m.cls := findClass_of_methodNamed B.named
  have hlocks := B.notSynchronized
  have iX1 : ∀ w ∈ u_ws RX1 TX1 4, w ∈ wsX1_flow := by decide +kernel
  have hl := lv_entry ([.ref (g + (5 + 2 * i)), .int (nI f)]) (n := 2) (Nat.le_of_ble_eq_true rfl)
  rw [lg_entry_eq]
  generalize (lg_sl ([.ref (g + (5 + 2 * i)), .int (nI f)]) ++ List.replicate (2 - (lg_sl ([.ref (g + (5 + 2 * i)), .int (nI f)])).length) Slot.unset).toArray = ls at hl ⊢
  have hl : lv_has ls 2 [(0, .ref (g + (5 + 2 * i))), (1, .int (nI f))] := hl
  refine lv_iload_n hx hb dX1_flow_0 rfl (lv_at hl 1 rfl) ?_
  refine lv_iconst (v := 2) hx hb dX1_flow_1 (by decide) ?_
  refine lv_icmp_ne (tgt := 19) hx hb dX1_flow_2 (by decide) (fun c_2 => ?_) (fun c_2 => ?_)
  · refine lv_aload_n hx hb dX1_flow_19 rfl (lv_at hl 0 rfl) ?_
    refine x_get (ref := RX1) (C := RX1) (T := TX1) (N := 4) (ci := 1) (v := .ref (g + (6 + 2 * i))) hx hb hts iX1 hown hK.1 hP (by omega) (by omega) (gw_cell (by omega)) rfl 1 (by decide) (hts (.fieldLink RX1 15 "PoreField$Cell" "fluids" "[I") (by decide +kernel)) (fun _ h9 => h9) rfl dX1_flow_20 ?_
    refine lv_iload_n hx hb dX1_flow_23 rfl (lv_at hl 1 rfl) ?_
    refine x_iald hx hb hK.1 hP (by omega) (by omega) 0 (gw_row (gRow_fl (by omega))) rfl (cl_of_nI (i := f) rfl (by omega)) (vp_in_of_nI (i := f) rfl (by omega) (by omega)) dX1_flow_24 ?_
    refine lv_i2l hx hb dX1_flow_25 rfl ?_
    exact W.lret (v := ((M (6 + 2 * i) f).toInt64)) hx hb hr (fun tE ht hW => ⟨⟨((M (6 + 2 * i) f).toInt64), (), rfl, by simp only [m_flow, if_neg c_2], x_at ht (hP)⟩, hS.F ht⟩) hS.2.2 dX1_flow_26
  · refine lv_ldc2 (own := RX1) (v := 2) hx hb hown (hts (.constantLong RX1 36 (2)) (by decide +kernel)) dX1_flow_5 ?_
    refine lv_aload_n hx hb dX1_flow_8 rfl (lv_at hl 0 rfl) ?_
    refine x_get (ref := RX1) (C := RX1) (T := TX1) (N := 4) (ci := 1) (v := .ref (g + (6 + 2 * i))) hx hb hts iX1 hown hK.1 hP (by omega) (by omega) (gw_cell (by omega)) rfl 1 (by decide) (hts (.fieldLink RX1 15 "PoreField$Cell" "fluids" "[I") (by decide +kernel)) (fun _ h9 => h9) rfl dX1_flow_9 ?_
    refine lv_iload_n hx hb dX1_flow_12 rfl (lv_at hl 1 rfl) ?_
    refine x_iald hx hb hK.1 hP (by omega) (by omega) 0 (gw_row (gRow_fl (by omega))) rfl (cl_of_nI (i := f) rfl (by omega)) (vp_in_of_nI (i := f) rfl (by omega) (by omega)) dX1_flow_13 ?_
    refine lv_i2l hx hb dX1_flow_14 rfl ?_
    refine lv_lmul hx hb dX1_flow_15 ?_
    refine lv_goto (tgt := 26) hx hb dX1_flow_16 (by decide) ?_
    exact W.lret (v := ((2 : Int64) * ((M (6 + 2 * i) f).toInt64))) hx hb hr (fun tE ht hW => ⟨⟨((2 : Int64) * ((M (6 + 2 * i) f).toInt64)), (), rfl, by simp only [m_flow, if_pos c_2], x_at ht (hP)⟩, hS.F ht⟩) hS.2.2 dX1_flow_26

set_option maxRecDepth 100000 in
set_option maxHeartbeats 4000000 in
/-- Cell.mostTimes -/
theorem c_X1_mostTimes (l : Launch) (D : va_G) (cy : Nat → ClassId) (lo n : Nat) (w0 : Nat → va_E) (g : Nat) (M : Mem) (hg1 : lo ≤ g) (hg2 : g + 49 ≤ lo + n) (i : Nat) (hi : i < 16) (f : Nat) (hf : f < 3) (x : Int32) : Met l yX1_mostTimes wsX1_mostTimes ({ frames := 1, cells := 0, slots := 0, locals := 21 }) (PcW D cy lo n (gw cy w0 g M) [.ref (g + (5 + 2 * i)), .int (nI f), .int x]) (QiW D lo n (gw cy w0 g M) (m_mostTimes M i f x)) 0 0 (fun q : Nat => lo ≤ q) := by
  refine Met.ofW (cc := cX1_mostTimes) (maxL := 3) (ret := (some .int)) (by decide) rfl ?_
  intro p e s m args below meth c s₁ B hml hv
  obtain ⟨rfl, hP, hK, hS⟩ := x_entry hv
  have hx := B.exec
  have hb := B.bytes
  have hr := B.returns
  have hts := atoms_spec (ws := wsX1_mostTimes) B.pre
  have hown : s.vm.findClass RX1 = some m.cls := findClass_of_methodNamed B.named
  have hlocks := B.notSynchronized
  have iX1 : ∀ w ∈ u_ws RX1 TX1 4, w ∈ wsX1_mostTimes := by decide +kernel
  have hl := lv_entry ([.ref (g + (5 + 2 * i)), .int (nI f), .int x]) (n := 3) (Nat.le_of_ble_eq_true rfl)
  rw [lg_entry_eq]
  generalize (lg_sl ([.ref (g + (5 + 2 * i)), .int (nI f), .int x]) ++ List.replicate (3 - (lg_sl ([.ref (g + (5 + 2 * i)), .int (nI f), .int x])).length) Slot.unset).toArray = ls at hl ⊢
  have hl : lv_has ls 3 [(0, .ref (g + (5 + 2 * i))), (1, .int (nI f)), (2, .int x)] := hl
  refine lv_aload_n hx hb dX1_mostTimes_0 rfl (lv_at hl 0 rfl) ?_
  refine x_get (ref := RX1) (C := RX1) (T := TX1) (N := 4) (ci := 1) (v := .ref (g + (6 + 2 * i))) hx hb hts iX1 hown hK.1 hP (by omega) (by omega) (gw_cell (by omega)) rfl 1 (by decide) (hts (.fieldLink RX1 15 "PoreField$Cell" "fluids" "[I") (by decide +kernel)) (fun _ h9 => h9) rfl dX1_mostTimes_1 ?_
  refine lv_iload_n hx hb dX1_mostTimes_4 rfl (lv_at hl 1 rfl) ?_
  refine x_iald hx hb hK.1 hP (by omega) (by omega) 0 (gw_row (gRow_fl (by omega))) rfl (cl_of_nI (i := f) rfl (by omega)) (vp_in_of_nI (i := f) rfl (by omega) (by omega)) dX1_mostTimes_5 ?_
  refine lv_if_le (tgt := 19) hx hb dX1_mostTimes_6 (by decide) (fun c_6 => ?_) (fun c_6 => ?_)
  · refine lv_aload_n hx hb dX1_mostTimes_19 rfl (lv_at hl 0 rfl) ?_
    refine x_calli (va_runV (As := []) (rest := []) ⟨hx, hb, hml, hown, hts⟩ (c_X1_all l D cy lo n w0 g M (by omega) (by omega) i (by omega)) (cwV 0 hts gX1_mostTimes_X1_all rfl rfl rfl (by decide +kernel) ⟨Nat.le_of_ble_eq_true rfl, Nat.le_of_ble_eq_true rfl⟩) (preV hP hK (x_recv (ci := 1) (q := (RX1, TX1, 4)) hK.1 hP (by omega) (by omega) rfl (gw_cell (by omega)))) rfl rfl hl.1 rfl (lv_room (Nat.le_of_ble_eq_true rfl)) dX1_mostTimes_20 ⟨Nat.le_of_ble_eq_true rfl, Nat.le_of_ble_eq_true rfl⟩) hS (fun H locs hP hS => ?_)
    exact W.iret (v := (m_all M i)) hx hb hr (fun tE ht hW => ⟨⟨(m_all M i), (), rfl, by simp only [m_mostTimes, if_pos c_6], x_at ht (hP)⟩, hS.F ht⟩) hS.2.2 dX1_mostTimes_23
  · refine lv_aload_n hx hb dX1_mostTimes_9 rfl (lv_at hl 0 rfl) ?_
    refine x_get (ref := RX1) (C := RX1) (T := TX1) (N := 4) (ci := 1) (v := .ref (g + (6 + 2 * i))) hx hb hts iX1 hown hK.1 hP (by omega) (by omega) (gw_cell (by omega)) rfl 1 (by decide) (hts (.fieldLink RX1 15 "PoreField$Cell" "fluids" "[I") (by decide +kernel)) (fun _ h9 => h9) rfl dX1_mostTimes_10 ?_
    refine lv_iload_n hx hb dX1_mostTimes_13 rfl (lv_at hl 1 rfl) ?_
    refine x_iald hx hb hK.1 hP (by omega) (by omega) 0 (gw_row (gRow_fl (by omega))) rfl (cl_of_nI (i := f) rfl (by omega)) (vp_in_of_nI (i := f) rfl (by omega) (by omega)) dX1_mostTimes_14 ?_
    refine lv_iload_n hx hb dX1_mostTimes_15 rfl (lv_at hl 2 rfl) ?_
    refine lv_icmp_gt (tgt := 24) hx hb dX1_mostTimes_16 (by decide) (fun c_16 => ?_) (fun c_16 => ?_)
    · refine lv_iload_n hx hb dX1_mostTimes_24 rfl (lv_at hl 2 rfl) ?_
      refine lv_i2l hx hb dX1_mostTimes_25 rfl ?_
      refine lv_lconst (v := 1) hx hb dX1_mostTimes_26 rfl ?_
      refine lv_ladd hx hb dX1_mostTimes_27 ?_
      refine lv_aload_n hx hb dX1_mostTimes_28 rfl (lv_at hl 0 rfl) ?_
      refine x_calli (va_runV (As := []) (rest := [.long ((x.toInt64) + (1 : Int64))]) ⟨hx, hb, hml, hown, hts⟩ (c_X1_all l D cy lo n w0 g M (by omega) (by omega) i (by omega)) (cwV 0 hts gX1_mostTimes_X1_all rfl rfl rfl (by decide +kernel) ⟨Nat.le_of_ble_eq_true rfl, Nat.le_of_ble_eq_true rfl⟩) (preV hP hK (x_recv (ci := 1) (q := (RX1, TX1, 4)) hK.1 hP (by omega) (by omega) rfl (gw_cell (by omega)))) rfl rfl hl.1 rfl (lv_room (Nat.le_of_ble_eq_true rfl)) dX1_mostTimes_29 ⟨Nat.le_of_ble_eq_true rfl, Nat.le_of_ble_eq_true rfl⟩) hS (fun H locs hP hS => ?_)
      refine lv_i2l hx hb dX1_mostTimes_32 rfl ?_
      refine lv_lmul hx hb dX1_mostTimes_33 ?_
      refine lv_lconst (v := 1) hx hb dX1_mostTimes_34 rfl ?_
      refine lv_lsub hx hb dX1_mostTimes_35 ?_
      refine lv_aload_n hx hb dX1_mostTimes_36 rfl (lv_at hl 0 rfl) ?_
      refine lv_iload_n hx hb dX1_mostTimes_37 rfl (lv_at hl 1 rfl) ?_
      refine x_calll (va_runV (As := [.int (nI f)]) (rest := [.long ((((x.toInt64) + (1 : Int64)) * ((m_all M i).toInt64)) - (1 : Int64))]) ⟨hx, hb, hml, hown, hts⟩ (c_X1_flow l D cy lo n w0 g M (by omega) (by omega) i (by omega) f (by omega)) (cwV 1 hts gX1_mostTimes_X1_flow rfl rfl rfl (by decide +kernel) ⟨Nat.le_of_ble_eq_true rfl, Nat.le_of_ble_eq_true rfl⟩) (preV hP hK (x_recv (ci := 1) (q := (RX1, TX1, 4)) hK.1 hP (by omega) (by omega) rfl (gw_cell (by omega)))) rfl rfl hl.1 rfl (lv_room (Nat.le_of_ble_eq_true rfl)) dX1_mostTimes_38 ⟨Nat.le_of_ble_eq_true rfl, Nat.le_of_ble_eq_true rfl⟩) hS (fun H locs hP hS => ?_)
      refine lv_ldiv hx hb dX1_mostTimes_41 (flow_ne0 (Int32.not_le.mp c_6)) ?_
      refine lv_l2i hx hb dX1_mostTimes_42 rfl ?_
      exact W.iret (v := ((((((x.toInt64) + (1 : Int64)) * ((m_all M i).toInt64)) - (1 : Int64)) / (m_flow M i f)).toInt32)) hx hb hr (fun tE ht hW => ⟨⟨((((((x.toInt64) + (1 : Int64)) * ((m_all M i).toInt64)) - (1 : Int64)) / (m_flow M i f)).toInt32), (), rfl, by simp only [m_mostTimes, if_neg c_6, if_pos c_16], x_at ht (hP)⟩, hS.F ht⟩) hS.2.2 dX1_mostTimes_43
    · refine lv_aload_n hx hb dX1_mostTimes_19 rfl (lv_at hl 0 rfl) ?_
      refine x_calli (va_runV (As := []) (rest := []) ⟨hx, hb, hml, hown, hts⟩ (c_X1_all l D cy lo n w0 g M (by omega) (by omega) i (by omega)) (cwV 0 hts gX1_mostTimes_X1_all rfl rfl rfl (by decide +kernel) ⟨Nat.le_of_ble_eq_true rfl, Nat.le_of_ble_eq_true rfl⟩) (preV hP hK (x_recv (ci := 1) (q := (RX1, TX1, 4)) hK.1 hP (by omega) (by omega) rfl (gw_cell (by omega)))) rfl rfl hl.1 rfl (lv_room (Nat.le_of_ble_eq_true rfl)) dX1_mostTimes_20 ⟨Nat.le_of_ble_eq_true rfl, Nat.le_of_ble_eq_true rfl⟩) hS (fun H locs hP hS => ?_)
      exact W.iret (v := (m_all M i)) hx hb hr (fun tE ht hW => ⟨⟨(m_all M i), (), rfl, by simp only [m_mostTimes, if_neg c_6, if_neg c_16], x_at ht (hP)⟩, hS.F ht⟩) hS.2.2 dX1_mostTimes_23

set_option maxRecDepth 100000 in
set_option maxHeartbeats 4000000 in
/-- Cell.isShut -/
theorem c_X1_isShut (l : Launch) (D : va_G) (cy : Nat → ClassId) (lo n : Nat) (w0 : Nat → va_E) (g : Nat) (M : Mem) (hg1 : lo ≤ g) (hg2 : g + 49 ≤ lo + n) (i : Nat) (hi : i < 16) (b : Int32) (hB : (M (5 + 2 * i) 2 = 0 ∨ M (5 + 2 * i) 2 = 1) ∧ (M (5 + 2 * i) 3 = 0 ∨ M (5 + 2 * i) 3 = 1)) : Met l yX1_isShut wsX1_isShut ({ frames := 0, cells := 0, slots := 0, locals := 0 }) (PcW D cy lo n (gw cy w0 g M) [.ref (g + (5 + 2 * i)), .int b]) (QiW D lo n (gw cy w0 g M) (m_isShut M i b)) 0 0 (fun q : Nat => lo ≤ q) := by
  refine Met.ofW (cc := cX1_isShut) (maxL := 2) (ret := (some .boolean)) (by decide) rfl ?_
  intro p e s m args below meth c s₁ B hml hv
  obtain ⟨rfl, hP, hK, hS⟩ := x_entry hv
  have hx := B.exec
  have hb := B.bytes
  have hr := B.returns
  have hts := atoms_spec (ws := wsX1_isShut) B.pre
  have hown : s.vm.findClass RX1 = some m.cls := findClass_of_methodNamed B.named
  have hlocks := B.notSynchronized
  have iX1 : ∀ w ∈ u_ws RX1 TX1 4, w ∈ wsX1_isShut := by decide +kernel
  have hl := lv_entry ([.ref (g + (5 + 2 * i)), .int b]) (n := 2) (Nat.le_of_ble_eq_true rfl)
  rw [lg_entry_eq]
  generalize (lg_sl ([.ref (g + (5 + 2 * i)), .int b]) ++ List.replicate (2 - (lg_sl ([.ref (g + (5 + 2 * i)), .int b])).length) Slot.unset).toArray = ls at hl ⊢
  have hl : lv_has ls 2 [(0, .ref (g + (5 + 2 * i))), (1, .int b)] := hl
  refine lv_iload_n hx hb dX1_isShut_0 rfl (lv_at hl 1 rfl) ?_
  refine lv_if_eq (tgt := 11) hx hb dX1_isShut_1 (by decide) (fun c_1 => ?_) (fun c_1 => ?_)
  · refine lv_aload_n hx hb dX1_isShut_11 rfl (lv_at hl 0 rfl) ?_
    refine x_get (ref := RX1) (C := RX1) (T := TX1) (N := 4) (ci := 1) (v := .int (M (5 + 2 * i) 3)) hx hb hts iX1 hown hK.1 hP (by omega) (by omega) (gw_cell (by omega)) rfl 3 (by decide) (hts (.fieldLink RX1 29 "PoreField$Cell" "isShutSouth" "Z") (by decide +kernel)) (fun _ h9 => h9) rfl dX1_isShut_12 ?_
    exact W.zret (v := (M (5 + 2 * i) 3)) hx hb hr (nar_z hB.2) (fun tE ht hW => ⟨⟨(M (5 + 2 * i) 3), (), rfl, by simp only [m_isShut, if_pos c_1], x_at ht (hP)⟩, hS.F ht⟩) hS.2.2 dX1_isShut_15
  · refine lv_aload_n hx hb dX1_isShut_4 rfl (lv_at hl 0 rfl) ?_
    refine x_get (ref := RX1) (C := RX1) (T := TX1) (N := 4) (ci := 1) (v := .int (M (5 + 2 * i) 2)) hx hb hts iX1 hown hK.1 hP (by omega) (by omega) (gw_cell (by omega)) rfl 2 (by decide) (hts (.fieldLink RX1 25 "PoreField$Cell" "isShutEast" "Z") (by decide +kernel)) (fun _ h9 => h9) rfl dX1_isShut_5 ?_
    refine lv_goto (tgt := 15) hx hb dX1_isShut_8 (by decide) ?_
    exact W.zret (v := (M (5 + 2 * i) 2)) hx hb hr (nar_z hB.1) (fun tE ht hW => ⟨⟨(M (5 + 2 * i) 2), (), rfl, by simp only [m_isShut, if_neg c_1], x_at ht (hP)⟩, hS.F ht⟩) hS.2.2 dX1_isShut_15

set_option maxRecDepth 100000 in
set_option maxHeartbeats 4000000 in
/-- Cell.shut -/
theorem c_X1_shut (l : Launch) (D : va_G) (cy : Nat → ClassId) (lo n : Nat) (w0 : Nat → va_E) (g : Nat) (M : Mem) (hg1 : lo ≤ g) (hg2 : g + 49 ≤ lo + n) (i : Nat) (hi : i < 16) (b x : Int32) (hx01 : x = 0 ∨ x = 1) : Met l yX1_shut wsX1_shut ({ frames := 0, cells := 0, slots := 0, locals := 0 }) (PcW D cy lo n (gw cy w0 g M) [.ref (g + (5 + 2 * i)), .int b, .int x]) (QvW D lo n (gw cy w0 g (m_shut M i b x))) 0 0 (fun q : Nat => lo ≤ q) := by
  refine Met.ofW (cc := cX1_shut) (maxL := 3) (ret := none) (by decide) rfl ?_
  intro p e s m args below meth c s₁ B hml hv
  obtain ⟨rfl, hP, hK, hS⟩ := x_entry hv
  have hx := B.exec
  have hb := B.bytes
  have hr := B.returns
  have hts := atoms_spec (ws := wsX1_shut) B.pre
  have hown : s.vm.findClass RX1 = some m.cls := findClass_of_methodNamed B.named
  have hlocks := B.notSynchronized
  have iX1 : ∀ w ∈ u_ws RX1 TX1 4, w ∈ wsX1_shut := by decide +kernel
  have hl := lv_entry ([.ref (g + (5 + 2 * i)), .int b, .int x]) (n := 3) (Nat.le_of_ble_eq_true rfl)
  rw [lg_entry_eq]
  generalize (lg_sl ([.ref (g + (5 + 2 * i)), .int b, .int x]) ++ List.replicate (3 - (lg_sl ([.ref (g + (5 + 2 * i)), .int b, .int x])).length) Slot.unset).toArray = ls at hl ⊢
  have hl : lv_has ls 3 [(0, .ref (g + (5 + 2 * i))), (1, .int b), (2, .int x)] := hl
  refine lv_iload_n hx hb dX1_shut_0 rfl (lv_at hl 1 rfl) ?_
  refine lv_if_eq (tgt := 12) hx hb dX1_shut_1 (by decide) (fun c_1 => ?_) (fun c_1 => ?_)
  · refine lv_aload_n hx hb dX1_shut_12 rfl (lv_at hl 0 rfl) ?_
    refine lv_iload_n hx hb dX1_shut_13 rfl (lv_at hl 2 rfl) ?_
    refine x_put (ty := .boolean) (ref := RX1) (C := RX1) (T := TX1) (N := 4) (ci := 1) (v := .int x) hx hb hts iX1 tyX1 tyX1_ok nmX1 hown hK.1 hP hS (by omega) (by omega) (gw_cell (by omega)) rfl 3 (by decide) (hts (.fieldLink RX1 29 "PoreField$Cell" "isShutSouth" "Z") (by decide +kernel)) (fun _ h9 => h9) rfl (by decide +kernel) (nar_z hx01) (fit_z hx01) (Nat.le_of_ble_eq_true rfl) dX1_shut_14 (fun H locs hP hS => ?_)
    have hP := gp (k := 5 + 2 * i) (j := 3) (v := x) hP (by omega) (by rw [gEr_cell (by omega)]; rfl)
    exact W.vret hx hb hr (fun tE ht hW => ⟨⟨(), rfl, trivial, x_at ht ((by rw [show m_shut M i b x = _ from (by simp only [m_shut, if_pos c_1] : _ = u2 M (5 + 2 * i) 3 x)]; exact hP))⟩, hS.F ht⟩) hS.2.2 dX1_shut_17
  · refine lv_aload_n hx hb dX1_shut_4 rfl (lv_at hl 0 rfl) ?_
    refine lv_iload_n hx hb dX1_shut_5 rfl (lv_at hl 2 rfl) ?_
    refine x_put (ty := .boolean) (ref := RX1) (C := RX1) (T := TX1) (N := 4) (ci := 1) (v := .int x) hx hb hts iX1 tyX1 tyX1_ok nmX1 hown hK.1 hP hS (by omega) (by omega) (gw_cell (by omega)) rfl 2 (by decide) (hts (.fieldLink RX1 25 "PoreField$Cell" "isShutEast" "Z") (by decide +kernel)) (fun _ h9 => h9) rfl (by decide +kernel) (nar_z hx01) (fit_z hx01) (Nat.le_of_ble_eq_true rfl) dX1_shut_6 (fun H locs hP hS => ?_)
    have hP := gp (k := 5 + 2 * i) (j := 2) (v := x) hP (by omega) (by rw [gEr_cell (by omega)]; rfl)
    refine lv_goto (tgt := 17) hx hb dX1_shut_9 (by decide) ?_
    exact W.vret hx hb hr (fun tE ht hW => ⟨⟨(), rfl, trivial, x_at ht ((by rw [show m_shut M i b x = _ from (by simp only [m_shut, if_neg c_1] : _ = u2 M (5 + 2 * i) 2 x)]; exact hP))⟩, hS.F ht⟩) hS.2.2 dX1_shut_17

set_option maxRecDepth 100000 in
set_option maxHeartbeats 4000000 in
/-- Cell.moveOut: into the int array g + k2 -/
theorem c_X1_moveOut (l : Launch) (D : va_G) (cy : Nat → ClassId) (lo n : Nat) (w0 : Nat → va_E) (g : Nat) (M : Mem) (hg1 : lo ≤ g) (hg2 : g + 49 ≤ lo + n) (i : Nat) (hi : i < 16) (t : Int32) (k2 : Nat) (hk2 : gRow k2) : Met l yX1_moveOut wsX1_moveOut ({ frames := 1, cells := 0, slots := 0, locals := 24 }) (PcW D cy lo n (gw cy w0 g M) [.ref (g + (5 + 2 * i)), .int t, .ref (g + k2)]) (QvW D lo n (gw cy w0 g (m_moveOut M i t k2))) 0 0 (fun q : Nat => lo ≤ q) := by
  refine Met.ofW (cc := cX1_moveOut) (maxL := 6) (ret := none) (by decide) rfl ?_
  intro p e s m args below meth c s₁ B hml hv
  obtain ⟨rfl, hP, hK, hS⟩ := x_entry hv
  have hx := B.exec
  have hb := B.bytes
  have hr := B.returns
  have hts := atoms_spec (ws := wsX1_moveOut) B.pre
  have hown : s.vm.findClass RX1 = some m.cls := findClass_of_methodNamed B.named
  have hlocks := B.notSynchronized
  have iX1 : ∀ w ∈ u_ws RX1 TX1 4, w ∈ wsX1_moveOut := by decide +kernel
  have hl := lv_entry ([.ref (g + (5 + 2 * i)), .int t, .ref (g + k2)]) (n := 6) (Nat.le_of_ble_eq_true rfl)
  rw [lg_entry_eq]
  generalize (lg_sl ([.ref (g + (5 + 2 * i)), .int t, .ref (g + k2)]) ++ List.replicate (6 - (lg_sl ([.ref (g + (5 + 2 * i)), .int t, .ref (g + k2)])).length) Slot.unset).toArray = ls at hl ⊢
  have hl : lv_has ls 6 [(0, .ref (g + (5 + 2 * i))), (1, .int t), (2, .ref (g + k2))] := hl
  have hk49 := hk2.1
  refine lv_aload_n hx hb dX1_moveOut_0 rfl (lv_at hl 0 rfl) ?_
  refine x_calli (va_runV (As := []) (rest := []) ⟨hx, hb, hml, hown, hts⟩ (c_X1_all l D cy lo n w0 g M (by omega) (by omega) i (by omega)) (cwV 0 hts gX1_moveOut_X1_all rfl rfl rfl (by decide +kernel) ⟨Nat.le_of_ble_eq_true rfl, Nat.le_of_ble_eq_true rfl⟩) (preV hP hK (x_recv (ci := 1) (q := (RX1, TX1, 4)) hK.1 hP (by omega) (by omega) rfl (gw_cell (by omega)))) rfl rfl hl.1 rfl (lv_room (Nat.le_of_ble_eq_true rfl)) dX1_moveOut_1 ⟨Nat.le_of_ble_eq_true rfl, Nat.le_of_ble_eq_true rfl⟩) hS (fun H locs hP hS => ?_)
  refine lv_istore_n (lv' := [(3, .int (m_all M i)), (0, .ref (g + (5 + 2 * i))), (1, .int t), (2, .ref (g + k2))]) hx hb dX1_moveOut_4 rfl hl (by decide) rfl (fun ls hl => ?_)
  refine lv_iload_n hx hb dX1_moveOut_5 rfl (lv_at hl 0 rfl) ?_
  refine lv_if_gt (tgt := 10) hx hb dX1_moveOut_6 (by decide) (fun c_6 => ?_) (fun c_6 => ?_)
  · refine lv_iconst (v := 0) hx hb dX1_moveOut_10 (by decide) ?_
    refine lv_istore (lv' := [(4, .int (0 : Int32)), (3, .int (m_all M i)), (0, .ref (g + (5 + 2 * i))), (1, .int t), (2, .ref (g + k2))]) hx hb dX1_moveOut_11 hl (by decide) rfl (fun ls hl => ?_)
    have hloop13 : ∀ (f_r f : Nat) (H : Heap) (locs : List Loc) (ls : Array Slot), f + f_r = 3 → lv_has ls 6 [(4, .int (nI f)), (3, .int (m_all M i)), (0, .ref (g + (5 + 2 * i))), (1, .int t), (2, .ref (g + k2))] → va_P D vwCl (rl lo n (gw cy w0 g (fo (m_mvs i t (m_all M i) k2) f M))) H → va_S (fun q : Nat => lo ≤ q) s.heap H locs → W p l e (headSpec wsX1_moveOut ({ frames := 1, cells := 0, slots := 0, locals := 24 })).room s m (([.ref (g + (5 + 2 * i)), .int t, .ref (g + k2)] : List Value).toArray) below meth c H locs 0 0 (MQ below (QvW D lo n (gw cy w0 g (m_moveOut M i t k2))) (([.ref (g + (5 + 2 * i)), .int t, .ref (g + k2)] : List Value).toArray) s 0 0 (fun q : Nat => lo ≤ q)) (F0 m 13 ls []) := by
      intro f_r
      induction f_r with
      | zero =>
        intro f H locs ls hk13 hl hP hS
        obtain rfl : f = 3 := by omega
        refine lv_iload hx hb dX1_moveOut_13 (lv_at hl 0 rfl) ?_
        refine lv_iconst (v := 3) hx hb dX1_moveOut_15 (by decide) ?_
        refine lv_icmp_ge (tgt := 76) hx hb dX1_moveOut_16 (by decide) (fun _ => ?_) (fun c => absurd ((br_le (show (3 : Int32) = nI 3 from rfl) (show (nI 3) = nI 3 from rfl) (by omega) (by omega)).mpr (by omega)) c)
        exact W.vret hx hb hr (fun tE ht hW => ⟨⟨(), rfl, trivial, x_at ht ((by rw [show m_moveOut M i t k2 = _ from (by simp only [m_moveOut, if_pos c_6] : _ = fo (m_mvs i t (m_all M i) k2) 3 M)]; exact hP))⟩, hS.F ht⟩) hS.2.2 dX1_moveOut_76
      | succ f_r ih13 =>
        intro f H locs ls hk13 hl hP hS
        refine lv_iload hx hb dX1_moveOut_13 (lv_at hl 0 rfl) ?_
        refine lv_iconst (v := 3) hx hb dX1_moveOut_15 (by decide) ?_
        refine lv_icmp_ge (tgt := 76) hx hb dX1_moveOut_16 (by decide) (fun c => absurd ((br_le (show (3 : Int32) = nI 3 from rfl) (show (nI f) = nI f from rfl) (by omega) (by omega)).mp c) (by omega)) (fun _ => ?_)
        refine lv_aload_n hx hb dX1_moveOut_19 rfl (lv_at hl 2 rfl) ?_
        refine x_get (ref := RX1) (C := RX1) (T := TX1) (N := 4) (ci := 1) (v := .ref (g + (6 + 2 * i))) hx hb hts iX1 hown hK.1 hP (by omega) (by omega) (gw_cell (by omega)) rfl 1 (by decide) (hts (.fieldLink RX1 15 "PoreField$Cell" "fluids" "[I") (by decide +kernel)) (fun _ h9 => h9) rfl dX1_moveOut_20 ?_
        refine lv_iload hx hb dX1_moveOut_23 (lv_at hl 0 rfl) ?_
        refine x_iald hx hb hK.1 hP (by omega) (by omega) 0 (gw_row (gRow_fl (by omega))) rfl (cl_of_nI (i := f) rfl (by omega)) (vp_in_of_nI (i := f) rfl (by omega) (by omega)) dX1_moveOut_25 ?_
        refine lv_i2l hx hb dX1_moveOut_26 rfl ?_
        refine lv_aload_n hx hb dX1_moveOut_27 rfl (lv_at hl 2 rfl) ?_
        refine lv_iload hx hb dX1_moveOut_28 (lv_at hl 0 rfl) ?_
        refine x_calll (va_runV (As := [.int (nI f)]) (rest := [.long (((fo (m_mvs i t (m_all M i) k2) f M) (6 + 2 * i) f).toInt64)]) ⟨hx, hb, hml, hown, hts⟩ (c_X1_flow l D cy lo n w0 g (fo (m_mvs i t (m_all M i) k2) f M) (by omega) (by omega) i (by omega) f (by omega)) (cwV 1 hts gX1_moveOut_X1_flow rfl rfl rfl (by decide +kernel) ⟨Nat.le_of_ble_eq_true rfl, Nat.le_of_ble_eq_true rfl⟩) (preV hP hK (x_recv (ci := 1) (q := (RX1, TX1, 4)) hK.1 hP (by omega) (by omega) rfl (gw_cell (by omega)))) rfl rfl hl.1 rfl (lv_room (Nat.le_of_ble_eq_true rfl)) dX1_moveOut_30 ⟨Nat.le_of_ble_eq_true rfl, Nat.le_of_ble_eq_true rfl⟩) hS (fun H locs hP hS => ?_)
        refine lv_iload_n hx hb dX1_moveOut_33 rfl (lv_at hl 3 rfl) ?_
        refine lv_iload_n hx hb dX1_moveOut_34 rfl (lv_at hl 1 rfl) ?_
        refine va_mmin (own := RX1) hx hb (hml.trans hl.1.symm) hown (hts (.methodLink RX1 42 Lib.Math.min.name) (by decide +kernel)) (hts (.static Lib.Math.min.name) (by decide +kernel)) (hts (.initialized "java/lang/Math") (by decide +kernel)) (hts (.code Lib.Math.min.name Lib.Math.min.code 2 (some .int)) (by decide +kernel)) (Nat.le_of_ble_eq_true rfl) (Nat.le_of_ble_eq_true rfl) (Nat.zero_le _) (Nat.zero_le _) dX1_moveOut_35 ?_
        refine lv_i2l hx hb dX1_moveOut_38 rfl ?_
        refine lv_lmul hx hb dX1_moveOut_39 ?_
        refine lv_iload_n hx hb dX1_moveOut_40 rfl (lv_at hl 1 rfl) ?_
        refine lv_i2l hx hb dX1_moveOut_41 rfl ?_
        refine lv_ldiv hx hb dX1_moveOut_42 (toInt64_ne0 (pos_ne0 c_6)) ?_
        refine va_mmin_long (own := RX1) hx hb (hml.trans hl.1.symm) hown (hts (.methodLink RX1 48 Lib.MathLoose.min_long.x) (by decide +kernel)) (hts (.static Lib.MathLoose.min_long.x) (by decide +kernel)) (hts (.initialized "java/lang/Math") (by decide +kernel)) (hts (.code Lib.MathLoose.min_long.x Lib.MathLoose.min_long.code 4 (some .long)) (by decide +kernel)) (Nat.le_of_ble_eq_true rfl) (Nat.le_of_ble_eq_true rfl) (Nat.zero_le _) (Nat.zero_le _) dX1_moveOut_43 ?_
        refine lv_l2i hx hb dX1_moveOut_46 rfl ?_
        refine lv_istore (lv' := [(5, .int ((jminl (((fo (m_mvs i t (m_all M i) k2) f M) (6 + 2 * i) f).toInt64) (((m_flow (fo (m_mvs i t (m_all M i) k2) f M) i f) * ((jmin t (m_all M i)).toInt64)) / ((m_all M i).toInt64))).toInt32)), (4, .int (nI f)), (3, .int (m_all M i)), (0, .ref (g + (5 + 2 * i))), (1, .int t), (2, .ref (g + k2))]) hx hb dX1_moveOut_47 hl (by decide) rfl (fun ls hl => ?_)
        refine lv_aload_n hx hb dX1_moveOut_49 rfl (lv_at hl 3 rfl) ?_
        refine x_get (ref := RX1) (C := RX1) (T := TX1) (N := 4) (ci := 1) (v := .ref (g + (6 + 2 * i))) hx hb hts iX1 hown hK.1 hP (by omega) (by omega) (gw_cell (by omega)) rfl 1 (by decide) (hts (.fieldLink RX1 15 "PoreField$Cell" "fluids" "[I") (by decide +kernel)) (fun _ h9 => h9) rfl dX1_moveOut_50 ?_
        refine lv_iload hx hb dX1_moveOut_53 (lv_at hl 1 rfl) ?_
        refine lv_dup2_11 hx hb dX1_moveOut_55 rfl rfl ?_
        refine x_iald hx hb hK.1 hP (by omega) (by omega) 0 (gw_row (gRow_fl (by omega))) rfl (cl_of_nI (i := f) rfl (by omega)) (vp_in_of_nI (i := f) rfl (by omega) (by omega)) dX1_moveOut_56 ?_
        refine lv_iload hx hb dX1_moveOut_57 (lv_at hl 0 rfl) ?_
        refine lv_isub hx hb dX1_moveOut_59 ?_
        refine x_iast (v := (((fo (m_mvs i t (m_all M i) k2) f M) (6 + 2 * i) f) - ((jminl (((fo (m_mvs i t (m_all M i) k2) f M) (6 + 2 * i) f).toInt64) (((m_flow (fo (m_mvs i t (m_all M i) k2) f M) i f) * ((jmin t (m_all M i)).toInt64)) / ((m_all M i).toInt64))).toInt32))) hx hb hK.1 hP hS (by omega) (by omega) 0 (gw_row (gRow_fl (by omega))) rfl (cl_of_nI (i := f) rfl (by omega)) (vp_in_of_nI (i := f) rfl (by omega) (by omega)) dX1_moveOut_60 (fun H locs hP hS => ?_)
        have hP := gpr (k := 6 + 2 * i) (j := f) (v := (((fo (m_mvs i t (m_all M i) k2) f M) (6 + 2 * i) f) - ((jminl (((fo (m_mvs i t (m_all M i) k2) f M) (6 + 2 * i) f).toInt64) (((m_flow (fo (m_mvs i t (m_all M i) k2) f M) i f) * ((jmin t (m_all M i)).toInt64)) / ((m_all M i).toInt64))).toInt32))) hP (gRow_fl (by omega))
        refine lv_aload_n hx hb dX1_moveOut_61 rfl (lv_at hl 5 rfl) ?_
        refine lv_iload hx hb dX1_moveOut_62 (lv_at hl 1 rfl) ?_
        refine lv_dup2_11 hx hb dX1_moveOut_64 rfl rfl ?_
        refine x_iald hx hb hK.1 hP (by omega) (by omega) 0 (gw_row (hk2)) rfl (cl_of_nI (i := f) rfl (by omega)) (vp_in_of_nI (i := f) rfl (by omega) (by omega)) dX1_moveOut_65 ?_
        refine lv_iload hx hb dX1_moveOut_66 (lv_at hl 0 rfl) ?_
        refine lv_iadd hx hb dX1_moveOut_68 ?_
        refine x_iast (v := (((u2 (fo (m_mvs i t (m_all M i) k2) f M) (6 + 2 * i) f (((fo (m_mvs i t (m_all M i) k2) f M) (6 + 2 * i) f) - ((jminl (((fo (m_mvs i t (m_all M i) k2) f M) (6 + 2 * i) f).toInt64) (((m_flow (fo (m_mvs i t (m_all M i) k2) f M) i f) * ((jmin t (m_all M i)).toInt64)) / ((m_all M i).toInt64))).toInt32))) (k2) f) + ((jminl (((fo (m_mvs i t (m_all M i) k2) f M) (6 + 2 * i) f).toInt64) (((m_flow (fo (m_mvs i t (m_all M i) k2) f M) i f) * ((jmin t (m_all M i)).toInt64)) / ((m_all M i).toInt64))).toInt32))) hx hb hK.1 hP hS (by omega) (by omega) 0 (gw_row (hk2)) rfl (cl_of_nI (i := f) rfl (by omega)) (vp_in_of_nI (i := f) rfl (by omega) (by omega)) dX1_moveOut_69 (fun H locs hP hS => ?_)
        have hP := gpr (k := k2) (j := f) (v := (((u2 (fo (m_mvs i t (m_all M i) k2) f M) (6 + 2 * i) f (((fo (m_mvs i t (m_all M i) k2) f M) (6 + 2 * i) f) - ((jminl (((fo (m_mvs i t (m_all M i) k2) f M) (6 + 2 * i) f).toInt64) (((m_flow (fo (m_mvs i t (m_all M i) k2) f M) i f) * ((jmin t (m_all M i)).toInt64)) / ((m_all M i).toInt64))).toInt32))) (k2) f) + ((jminl (((fo (m_mvs i t (m_all M i) k2) f M) (6 + 2 * i) f).toInt64) (((m_flow (fo (m_mvs i t (m_all M i) k2) f M) i f) * ((jmin t (m_all M i)).toInt64)) / ((m_all M i).toInt64))).toInt32))) hP (hk2)
        refine lv_iinc (v := (nI (f + 1))) (lv' := [(4, .int (nI (f + 1))), (5, .int ((jminl (((fo (m_mvs i t (m_all M i) k2) f M) (6 + 2 * i) f).toInt64) (((m_flow (fo (m_mvs i t (m_all M i) k2) f M) i f) * ((jmin t (m_all M i)).toInt64)) / ((m_all M i).toInt64))).toInt32)), (3, .int (m_all M i)), (0, .ref (g + (5 + 2 * i))), (1, .int t), (2, .ref (g + k2))]) hx hb dX1_moveOut_70 hl (k := 1) rfl (nI_1 _) (by decide) rfl (fun ls hl => ?_)
        refine lv_goto (tgt := 13) hx hb dX1_moveOut_73 (by decide) ?_
        exact ih13 (f + 1) _ _ _ (by omega) (lv_sub hl [0, 2, 3, 4, 5] rfl) (hP) hS
    exact hloop13 3 0 _ _ _ (by omega) (lv_sub hl [0, 1, 2, 3, 4] rfl) (hP) hS
  · exact W.vret hx hb hr (fun tE ht hW => ⟨⟨(), rfl, trivial, x_at ht ((by rw [show m_moveOut M i t k2 = _ from (by simp only [m_moveOut, if_neg c_6] : _ = M)]; exact hP))⟩, hS.F ht⟩) hS.2.2 dX1_moveOut_9
