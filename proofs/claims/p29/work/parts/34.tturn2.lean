/-! Told.turn, the other cases -/
theorem nb_e {f c : Nat} (hf : f < 3) (hc : c < 4) : ¬ m_nb (f + 4 * c) 1 = -1 := by
  have k : ∀ f, f < 3 → ∀ c, c < 4 → ¬ m_nb (f + 4 * c) 1 = -1 := by decide +kernel
  exact k f hf c hc
theorem nb_s {c : Nat} (hc : c < 12) : ¬ m_nb c 0 = -1 := by
  have k : ∀ c, c < 12 → ¬ m_nb c 0 = -1 := by decide +kernel
  exact k c hc
set_option maxRecDepth 100000 in
set_option maxHeartbeats 4000000 in
/-- Told.turn: a capacity -/
theorem c_X7_turn_3 (l : Launch) (D : va_G) (cy : Nat → ClassId) (lo n : Nat) (w : Nat → va_E) (b L : Nat) (xs : Nat → Int32) (hbl : b < lo) (hL : L ≤ 260) (A : Nat → Prop) (t d wo : Nat) (wr : Nat → Nat) (nd : Nat) (G T P : Mem) (hT : TW cy w A lo n t b d wo wr nd G T P) (hG : GI nd G) (hnd : 0 < nd) (hd : d < 900000) (i : Nat) (hii : i = tn L xs d nd) (hk : tn L xs (d + 1) 8 = 3) : Met l yX7_turn wsX7_turn ({ frames := 4, cells := 0, slots := 0, locals := 100 }) (PcT D cy lo n w b L xs [.ref t]) (QxT D lo n (fun r u => r = 1 ∧ TW cy u A lo n t b (d + 4) wo wr nd (u2 G 3 (tn L xs (d + 2) 3) (nI (tn L xs (d + 3) 60))) T (P) ∧ Fr A w u)) 0 0 (fun q : Nat => lo ≤ q) := by
  refine Met.ofW (cc := cX7_turn) (maxL := 9) (ret := (some .boolean)) (by decide) rfl ?_
  intro p e s m args below meth c s₁ B hml hv
  obtain ⟨rfl, hP, hK, hS, hX⟩ := x_entryT hv
  have hx := B.exec
  have hb := B.bytes
  have hr := B.returns
  have hts := atoms_spec (ws := wsX7_turn) B.pre
  have hown : s.vm.findClass RX7 = some m.cls := findClass_of_methodNamed B.named
  have iX7 : ∀ w ∈ u_ws RX7 TX7 13, w ∈ wsX7_turn := by decide +kernel
  have htb := hT.tb
  have hnd6 := hG.1
  have hwo := hT.inn wo hT.woA.1
  have hi : i < nd := by rw [hii]; exact (dw_tn hnd (by omega)).2
  have hwr := hT.inn (wr i) (hT.wrA i hi).1
  have hwr2 := (hT.wrA i hi).2
  have hF : Fr A w w := Fr.rf
  have hl := lv_entry ([.ref t]) (n := 9) (Nat.le_of_ble_eq_true rfl)
  rw [lg_entry_eq]
  generalize (lg_sl ([.ref t]) ++ List.replicate (9 - (lg_sl ([.ref t])).length) Slot.unset).toArray = ls at hl ⊢
  have hl : lv_has ls 9 [(0, .ref t)] := hl
  refine lv_aload_n hx hb dX7_turn_0 rfl (lv_at hl 0 rfl) ?_
  refine lv_aload_n hx hb dX7_turn_1 rfl (lv_at hl 0 rfl) ?_
  refine x_get (ref := RX7) (C := RX7) (T := TX7) (N := 13) (ci := 7) (v := .ref wo) hx hb hts iX7 hown hK.1 hP (by omega) (by omega) hT.obj rfl 6 (by decide) (hts (.fieldLink RX7 31 "PoreFieldLaw$Told" "wells" "[[I") (by decide +kernel)) (fun _ h9 => h9) rfl dX7_turn_2 ?_
  obtain ⟨fw, hfw, hfi⟩ := hT.wells
  refine x_alenA hx hb hK.1 hP (by omega) (by omega) 6 hfw rfl dX7_turn_5 ?_
  refine x_calli (va_runV (As := [.int (nI nd)]) (rest := []) ⟨hx, hb, hml, hown, hts⟩ (c_X7_draw l D cy lo n w b L xs hbl hL t (d) wo ((G) 0 4) (by omega) (by omega) hT.obj (by omega) nd hnd (by omega)) (cwV 1 hts gX7_turn_X7_draw rfl rfl rfl (by decide +kernel) ⟨Nat.le_of_ble_eq_true rfl, Nat.le_of_ble_eq_true rfl⟩) (preVT hP hK (x_scr hX hbl hS) (x_recv (ci := 7) (q := (RX7, TX7, 13)) hK.1 hP (by omega) (by omega) rfl hT.obj)) rfl rfl hl.1 rfl (lv_room (Nat.le_of_ble_eq_true rfl)) dX7_turn_6 ⟨Nat.le_of_ble_eq_true rfl, Nat.le_of_ble_eq_true rfl⟩) hS (fun H locs hP hS => ?_)
  refine x_gen hP (fun v0 e0 hP => ?_)
  have hT : TW cy v0 A lo n t b (d + 1) wo wr nd (G) T P := by rw [e0]; exact hT.dr
  have hF : Fr A w v0 := fun a ha => by rw [e0]; exact (xu_ne (fun q => ha (by rw [q]; exact hT.own t (by omega) (by omega)))).trans (hF a ha)
  rw [(dw_tn (L := L) (xs := xs) (d := d) (N := nd) hnd (by omega)).1]
  rw [← hii]
  refine lv_istore_n (lv' := [(1, .int (nI i)), (0, .ref t)]) hx hb dX7_turn_9 rfl hl (by decide) rfl (fun ls hl => ?_)
  refine lv_aload_n hx hb dX7_turn_10 rfl (lv_at hl 1 rfl) ?_
  refine x_get (ref := RX7) (C := RX7) (T := TX7) (N := 13) (ci := 7) (v := .ref wo) hx hb hts iX7 hown hK.1 hP (by omega) (by omega) hT.obj rfl 6 (by decide) (hts (.fieldLink RX7 31 "PoreFieldLaw$Told" "wells" "[[I") (by decide +kernel)) (fun _ h9 => h9) rfl dX7_turn_11 ?_
  obtain ⟨fw, hfw, hfi⟩ := hT.wells
  refine lv_iload_n hx hb dX7_turn_14 rfl (lv_at hl 0 rfl) ?_
  refine x_aaldA hx hb hK.1 hP (by omega) (by omega) 6 hfw rfl (cl_of_nI (i := i) rfl (by omega)) (hfi i hi) (vp_in_of_nI (i := i) rfl (by omega) (by omega)) dX7_turn_15 ?_
  refine lv_astore_n (lv' := [(2, .ref (wr i)), (1, .int (nI i)), (0, .ref t)]) hx hb dX7_turn_16 rfl hl (by decide) rfl (fun ls hl => ?_)
  refine lv_aload_n hx hb dX7_turn_17 rfl (lv_at hl 2 rfl) ?_
  refine lv_bipush (v := 8) hx hb dX7_turn_18 (by decide) ?_
  refine x_calli (va_runV (As := [.int (nI 8)]) (rest := []) ⟨hx, hb, hml, hown, hts⟩ (c_X7_draw l D cy lo n v0 b L xs hbl hL t (d + 1) wo ((G) 0 4) (by omega) (by omega) hT.obj (by omega) 8 (by omega) (by omega)) (cwV 1 hts gX7_turn_X7_draw rfl rfl rfl (by decide +kernel) ⟨Nat.le_of_ble_eq_true rfl, Nat.le_of_ble_eq_true rfl⟩) (preVT hP hK (x_scr hX hbl hS) (x_recv (ci := 7) (q := (RX7, TX7, 13)) hK.1 hP (by omega) (by omega) rfl hT.obj)) rfl rfl hl.1 rfl (lv_room (Nat.le_of_ble_eq_true rfl)) dX7_turn_20 ⟨Nat.le_of_ble_eq_true rfl, Nat.le_of_ble_eq_true rfl⟩) hS (fun H locs hP hS => ?_)
  refine x_gen hP (fun v1 e1 hP => ?_)
  have hT : TW cy v1 A lo n t b (d + 2) wo wr nd (G) T P := by rw [e1]; exact hT.dr
  have hF : Fr A w v1 := fun a ha => by rw [e1]; exact (xu_ne (fun q => ha (by rw [q]; exact hT.own t (by omega) (by omega)))).trans (hF a ha)
  rw [(dw_tn (L := L) (xs := xs) (d := d + 1) (N := 8) (by omega) (by omega)).1]
  rw [hk]
  refine lv_tableIn (tgt := 127) (off := 104) hx hb dX7_turn_23 (by decide) (by decide) (by decide) (by decide) ?_
  refine lv_aload_n hx hb dX7_turn_127 rfl (lv_at hl 2 rfl) ?_
  refine lv_iconst (v := 3) hx hb dX7_turn_128 (by decide) ?_
  refine x_calli (va_runV (As := [.int (nI 3)]) (rest := []) ⟨hx, hb, hml, hown, hts⟩ (c_X7_draw l D cy lo n v1 b L xs hbl hL t (d + 2) wo ((G) 0 4) (by omega) (by omega) hT.obj (by omega) 3 (by omega) (by omega)) (cwV 1 hts gX7_turn_X7_draw rfl rfl rfl (by decide +kernel) ⟨Nat.le_of_ble_eq_true rfl, Nat.le_of_ble_eq_true rfl⟩) (preVT hP hK (x_scr hX hbl hS) (x_recv (ci := 7) (q := (RX7, TX7, 13)) hK.1 hP (by omega) (by omega) rfl hT.obj)) rfl rfl hl.1 rfl (lv_room (Nat.le_of_ble_eq_true rfl)) dX7_turn_129 ⟨Nat.le_of_ble_eq_true rfl, Nat.le_of_ble_eq_true rfl⟩) hS (fun H locs hP hS => ?_)
  refine x_gen hP (fun v2 e2 hP => ?_)
  have hT : TW cy v2 A lo n t b (d + 3) wo wr nd (G) T P := by rw [e2]; exact hT.dr
  have hF : Fr A w v2 := fun a ha => by rw [e2]; exact (xu_ne (fun q => ha (by rw [q]; exact hT.own t (by omega) (by omega)))).trans (hF a ha)
  rw [(dw_tn (L := L) (xs := xs) (d := d + 2) (N := 3) (by omega) (by omega)).1]
  have hf := (dw_tn (L := L) (xs := xs) (d := d + 2) (N := 3) (by omega) (by omega)).2
  generalize tn L xs (d + 2) 3 = f at hf ⊢
  refine lv_istore (lv' := [(4, .int (nI f)), (2, .ref (wr i)), (1, .int (nI i)), (0, .ref t)]) hx hb dX7_turn_132 hl (by decide) rfl (fun ls hl => ?_)
  refine lv_aload_n hx hb dX7_turn_134 rfl (lv_at hl 3 rfl) ?_
  refine x_get (ref := RX7) (C := RX7) (T := TX7) (N := 13) (ci := 7) (v := .ref (t + 155)) hx hb hts iX7 hown hK.1 hP (by omega) (by omega) hT.obj rfl 7 (by decide) (hts (.fieldLink RX7 34 "PoreFieldLaw$Told" "capacities" "[I") (by decide +kernel)) (fun _ h9 => h9) rfl dX7_turn_135 ?_
  refine lv_iload hx hb dX7_turn_138 (lv_at hl 0 rfl) ?_
  obtain ⟨r, hc0, hcj⟩ := hT.caps
  refine x_iald hx hb hK.1 hP (by omega) (by omega) 0 hc0 rfl (cl_of_nI (i := f) rfl (by omega)) (vp_in_of_nI (i := f) rfl (by omega) (by omega)) dX7_turn_140 ?_
  rw [hcj f hf]
  refine lv_istore (lv' := [(5, .int (G 3 f)), (4, .int (nI f)), (2, .ref (wr i)), (1, .int (nI i)), (0, .ref t)]) hx hb dX7_turn_141 hl (by decide) rfl (fun ls hl => ?_)
  refine lv_aload_n hx hb dX7_turn_143 rfl (lv_at hl 4 rfl) ?_
  refine x_get (ref := RX7) (C := RX7) (T := TX7) (N := 13) (ci := 7) (v := .ref (t + 155)) hx hb hts iX7 hown hK.1 hP (by omega) (by omega) hT.obj rfl 7 (by decide) (hts (.fieldLink RX7 34 "PoreFieldLaw$Told" "capacities" "[I") (by decide +kernel)) (fun _ h9 => h9) rfl dX7_turn_144 ?_
  refine lv_iload hx hb dX7_turn_147 (lv_at hl 1 rfl) ?_
  refine lv_aload_n hx hb dX7_turn_149 rfl (lv_at hl 4 rfl) ?_
  refine lv_bipush (v := 60) hx hb dX7_turn_150 (by decide) ?_
  refine x_calli (va_runV (As := [.int (nI 60)]) (rest := [.int (nI f), .ref (t + 155)]) ⟨hx, hb, hml, hown, hts⟩ (c_X7_draw l D cy lo n v2 b L xs hbl hL t (d + 3) wo ((G) 0 4) (by omega) (by omega) hT.obj (by omega) 60 (by omega) (by omega)) (cwV 1 hts gX7_turn_X7_draw rfl rfl rfl (by decide +kernel) ⟨Nat.le_of_ble_eq_true rfl, Nat.le_of_ble_eq_true rfl⟩) (preVT hP hK (x_scr hX hbl hS) (x_recv (ci := 7) (q := (RX7, TX7, 13)) hK.1 hP (by omega) (by omega) rfl hT.obj)) rfl rfl hl.1 rfl (lv_room (Nat.le_of_ble_eq_true rfl)) dX7_turn_152 ⟨Nat.le_of_ble_eq_true rfl, Nat.le_of_ble_eq_true rfl⟩) hS (fun H locs hP hS => ?_)
  refine x_gen hP (fun v3 e3 hP => ?_)
  have hT : TW cy v3 A lo n t b (d + 4) wo wr nd (G) T P := by rw [e3]; exact hT.dr
  have hF : Fr A w v3 := fun a ha => by rw [e3]; exact (xu_ne (fun q => ha (by rw [q]; exact hT.own t (by omega) (by omega)))).trans (hF a ha)
  rw [(dw_tn (L := L) (xs := xs) (d := d + 3) (N := 60) (by omega) (by omega)).1]
  have hy := (dw_tn (L := L) (xs := xs) (d := d + 3) (N := 60) (by omega) (by omega)).2
  generalize tn L xs (d + 3) 60 = y at hy ⊢
  obtain ⟨r, hc0, hcj⟩ := hT.caps
  refine x_iast hx hb hK.1 hP hS (by omega) (by omega) 0 hc0 rfl (cl_of_nI (i := f) rfl (by omega)) (vp_in_of_nI (i := f) rfl (by omega) (by omega)) dX7_turn_155 (fun H locs hP hS => ?_)
  refine lv_aload_n hx hb dX7_turn_156 rfl (lv_at hl 4 rfl) ?_
  refine x_get (ref := RX7) (C := RX7) (T := TX7) (N := 13) (ci := 7) (v := .ref (t + 1)) hx hb hts iX7 hown hK.1 hP (by omega) (by omega) ((xu_ne (by omega)).trans hT.obj) rfl 0 (by decide) (hts (.fieldLink RX7 10 "PoreFieldLaw$Told" "m" "LPoreField;") (by decide +kernel)) (fun _ h9 => h9) rfl dX7_turn_157 ?_
  refine lv_iload hx hb dX7_turn_160 (lv_at hl 1 rfl) ?_
  refine lv_aload_n hx hb dX7_turn_162 rfl (lv_at hl 4 rfl) ?_
  refine x_get (ref := RX7) (C := RX7) (T := TX7) (N := 13) (ci := 7) (v := .ref (t + 155)) hx hb hts iX7 hown hK.1 hP (by omega) (by omega) ((xu_ne (by omega)).trans hT.obj) rfl 7 (by decide) (hts (.fieldLink RX7 34 "PoreFieldLaw$Told" "capacities" "[I") (by decide +kernel)) (fun _ h9 => h9) rfl dX7_turn_163 ?_
  refine lv_iload hx hb dX7_turn_166 (lv_at hl 1 rfl) ?_
  refine x_iald hx hb hK.1 hP (by omega) (by omega) 0 (xu_same _ _ _) rfl (cl_of_nI (i := f) rfl (by omega)) (vp_in_of_nI (i := f) rfl (by omega) (by omega)) dX7_turn_168 ?_
  rw [show upd r f (nI y) f = nI y from if_pos rfl]
  have hpf : pw cy (va_up v3 (t + 155) (.inl (cy 0, 3, .inl (upd r f (nI y))))) (t + 1) G T P = va_up v3 (t + 155) (.inl (cy 0, 3, .inl (upd r f (nI y)))) := pw_ext hT.pf (fun a h1 h2 => xu_ne (by omega))
  have hP := TW.to hpf hP
  refine x_calli (va_runV (As := [.int (nI f), .int (nI y)]) (rest := []) ⟨hx, hb, hml, hown, hts⟩ (c_X6_capacity l D cy lo n (va_up v3 (t + 155) (.inl (cy 0, 3, .inl (upd r f (nI y))))) (t + 1) G T P (by omega) (by omega) f hf (nI y) ((nI_leI (a := 0) (b := y) (by omega) (by omega)).mpr (by omega)) ((nI_leI (a := y) (b := 99) (by omega) (by omega)).mpr (by omega))) (cwV 2 hts gX7_turn_X6_capacity rfl rfl rfl (by decide +kernel) ⟨Nat.le_of_ble_eq_true rfl, Nat.le_of_ble_eq_true rfl⟩) (preV hP hK (x_recv (ci := 6) (q := (RX6, TX6, 11)) hK.1 hP (by omega) (by omega) rfl ((gw_out (by omega)).trans ((gw_out (by omega)).trans hw_0)))) rfl rfl hl.1 rfl (lv_room (Nat.le_of_ble_eq_true rfl)) dX7_turn_169 ⟨Nat.le_of_ble_eq_true rfl, Nat.le_of_ble_eq_true rfl⟩) hS (fun H locs hP hS => ?_)
  refine lv_iload hx hb dX7_turn_172 (lv_at hl 0 rfl) ?_
  refine lv_icmp_ne (tgt := 181) hx hb dX7_turn_174 (by decide) (fun h1 => absurd rfl h1) (fun h1 => ?_)
  refine lv_iconst (v := 1) hx hb dX7_turn_177 (by decide) ?_
  refine lv_goto (tgt := 182) hx hb dX7_turn_178 (by decide) ?_
  exact W.zret (v := 1) hx hb hr rfl (fun tE ht hW => ⟨⟨_, _, rfl, ⟨rfl, hT.fcap hcj, hF.tr (hT.fr_one (by omega) (by omega))⟩, x_at ht hP⟩, hS.F ht⟩) hS.2.2 dX7_turn_182
set_option maxRecDepth 100000 in
set_option maxHeartbeats 4000000 in
/-- Told.turn: the permit -/
theorem c_X7_turn_4 (l : Launch) (D : va_G) (cy : Nat → ClassId) (lo n : Nat) (w : Nat → va_E) (b L : Nat) (xs : Nat → Int32) (hbl : b < lo) (hL : L ≤ 260) (A : Nat → Prop) (t d wo : Nat) (wr : Nat → Nat) (nd : Nat) (G T P : Mem) (hT : TW cy w A lo n t b d wo wr nd G T P) (hG : GI nd G) (hnd : 0 < nd) (hd : d < 900000) (i : Nat) (hii : i = tn L xs d nd) (hk : tn L xs (d + 1) 8 = 4) : Met l yX7_turn wsX7_turn ({ frames := 4, cells := 0, slots := 0, locals := 100 }) (PcT D cy lo n w b L xs [.ref t]) (QxT D lo n (fun r u => r = 1 ∧ TW cy u A lo n t b (d + 3) wo wr nd (u2 G 0 4 (nI (tn L xs (d + 2) 30))) T (P) ∧ Fr A w u)) 0 0 (fun q : Nat => lo ≤ q) := by
  refine Met.ofW (cc := cX7_turn) (maxL := 9) (ret := (some .boolean)) (by decide) rfl ?_
  intro p e s m args below meth c s₁ B hml hv
  obtain ⟨rfl, hP, hK, hS, hX⟩ := x_entryT hv
  have hx := B.exec
  have hb := B.bytes
  have hr := B.returns
  have hts := atoms_spec (ws := wsX7_turn) B.pre
  have hown : s.vm.findClass RX7 = some m.cls := findClass_of_methodNamed B.named
  have iX7 : ∀ w ∈ u_ws RX7 TX7 13, w ∈ wsX7_turn := by decide +kernel
  have htb := hT.tb
  have hnd6 := hG.1
  have hwo := hT.inn wo hT.woA.1
  have hi : i < nd := by rw [hii]; exact (dw_tn hnd (by omega)).2
  have hwr := hT.inn (wr i) (hT.wrA i hi).1
  have hwr2 := (hT.wrA i hi).2
  have hF : Fr A w w := Fr.rf
  have hl := lv_entry ([.ref t]) (n := 9) (Nat.le_of_ble_eq_true rfl)
  rw [lg_entry_eq]
  generalize (lg_sl ([.ref t]) ++ List.replicate (9 - (lg_sl ([.ref t])).length) Slot.unset).toArray = ls at hl ⊢
  have hl : lv_has ls 9 [(0, .ref t)] := hl
  refine lv_aload_n hx hb dX7_turn_0 rfl (lv_at hl 0 rfl) ?_
  refine lv_aload_n hx hb dX7_turn_1 rfl (lv_at hl 0 rfl) ?_
  refine x_get (ref := RX7) (C := RX7) (T := TX7) (N := 13) (ci := 7) (v := .ref wo) hx hb hts iX7 hown hK.1 hP (by omega) (by omega) hT.obj rfl 6 (by decide) (hts (.fieldLink RX7 31 "PoreFieldLaw$Told" "wells" "[[I") (by decide +kernel)) (fun _ h9 => h9) rfl dX7_turn_2 ?_
  obtain ⟨fw, hfw, hfi⟩ := hT.wells
  refine x_alenA hx hb hK.1 hP (by omega) (by omega) 6 hfw rfl dX7_turn_5 ?_
  refine x_calli (va_runV (As := [.int (nI nd)]) (rest := []) ⟨hx, hb, hml, hown, hts⟩ (c_X7_draw l D cy lo n w b L xs hbl hL t (d) wo ((G) 0 4) (by omega) (by omega) hT.obj (by omega) nd hnd (by omega)) (cwV 1 hts gX7_turn_X7_draw rfl rfl rfl (by decide +kernel) ⟨Nat.le_of_ble_eq_true rfl, Nat.le_of_ble_eq_true rfl⟩) (preVT hP hK (x_scr hX hbl hS) (x_recv (ci := 7) (q := (RX7, TX7, 13)) hK.1 hP (by omega) (by omega) rfl hT.obj)) rfl rfl hl.1 rfl (lv_room (Nat.le_of_ble_eq_true rfl)) dX7_turn_6 ⟨Nat.le_of_ble_eq_true rfl, Nat.le_of_ble_eq_true rfl⟩) hS (fun H locs hP hS => ?_)
  refine x_gen hP (fun v0 e0 hP => ?_)
  have hT : TW cy v0 A lo n t b (d + 1) wo wr nd (G) T P := by rw [e0]; exact hT.dr
  have hF : Fr A w v0 := fun a ha => by rw [e0]; exact (xu_ne (fun q => ha (by rw [q]; exact hT.own t (by omega) (by omega)))).trans (hF a ha)
  rw [(dw_tn (L := L) (xs := xs) (d := d) (N := nd) hnd (by omega)).1]
  rw [← hii]
  refine lv_istore_n (lv' := [(1, .int (nI i)), (0, .ref t)]) hx hb dX7_turn_9 rfl hl (by decide) rfl (fun ls hl => ?_)
  refine lv_aload_n hx hb dX7_turn_10 rfl (lv_at hl 1 rfl) ?_
  refine x_get (ref := RX7) (C := RX7) (T := TX7) (N := 13) (ci := 7) (v := .ref wo) hx hb hts iX7 hown hK.1 hP (by omega) (by omega) hT.obj rfl 6 (by decide) (hts (.fieldLink RX7 31 "PoreFieldLaw$Told" "wells" "[[I") (by decide +kernel)) (fun _ h9 => h9) rfl dX7_turn_11 ?_
  obtain ⟨fw, hfw, hfi⟩ := hT.wells
  refine lv_iload_n hx hb dX7_turn_14 rfl (lv_at hl 0 rfl) ?_
  refine x_aaldA hx hb hK.1 hP (by omega) (by omega) 6 hfw rfl (cl_of_nI (i := i) rfl (by omega)) (hfi i hi) (vp_in_of_nI (i := i) rfl (by omega) (by omega)) dX7_turn_15 ?_
  refine lv_astore_n (lv' := [(2, .ref (wr i)), (1, .int (nI i)), (0, .ref t)]) hx hb dX7_turn_16 rfl hl (by decide) rfl (fun ls hl => ?_)
  refine lv_aload_n hx hb dX7_turn_17 rfl (lv_at hl 2 rfl) ?_
  refine lv_bipush (v := 8) hx hb dX7_turn_18 (by decide) ?_
  refine x_calli (va_runV (As := [.int (nI 8)]) (rest := []) ⟨hx, hb, hml, hown, hts⟩ (c_X7_draw l D cy lo n v0 b L xs hbl hL t (d + 1) wo ((G) 0 4) (by omega) (by omega) hT.obj (by omega) 8 (by omega) (by omega)) (cwV 1 hts gX7_turn_X7_draw rfl rfl rfl (by decide +kernel) ⟨Nat.le_of_ble_eq_true rfl, Nat.le_of_ble_eq_true rfl⟩) (preVT hP hK (x_scr hX hbl hS) (x_recv (ci := 7) (q := (RX7, TX7, 13)) hK.1 hP (by omega) (by omega) rfl hT.obj)) rfl rfl hl.1 rfl (lv_room (Nat.le_of_ble_eq_true rfl)) dX7_turn_20 ⟨Nat.le_of_ble_eq_true rfl, Nat.le_of_ble_eq_true rfl⟩) hS (fun H locs hP hS => ?_)
  refine x_gen hP (fun v1 e1 hP => ?_)
  have hT : TW cy v1 A lo n t b (d + 2) wo wr nd (G) T P := by rw [e1]; exact hT.dr
  have hF : Fr A w v1 := fun a ha => by rw [e1]; exact (xu_ne (fun q => ha (by rw [q]; exact hT.own t (by omega) (by omega)))).trans (hF a ha)
  rw [(dw_tn (L := L) (xs := xs) (d := d + 1) (N := 8) (by omega) (by omega)).1]
  rw [hk]
  refine lv_tableIn (tgt := 183) (off := 160) hx hb dX7_turn_23 (by decide) (by decide) (by decide) (by decide) ?_
  refine lv_aload_n hx hb dX7_turn_183 rfl (lv_at hl 2 rfl) ?_
  refine x_get (ref := RX7) (C := RX7) (T := TX7) (N := 13) (ci := 7) (v := .int (G 0 4)) hx hb hts iX7 hown hK.1 hP (by omega) (by omega) hT.obj rfl 8 (by decide) (hts (.fieldLink RX7 37 "PoreFieldLaw$Told" "permit" "I") (by decide +kernel)) (fun _ h9 => h9) rfl dX7_turn_184 ?_
  refine lv_istore (lv' := [(6, .int (G 0 4)), (2, .ref (wr i)), (1, .int (nI i)), (0, .ref t)]) hx hb dX7_turn_187 hl (by decide) rfl (fun ls hl => ?_)
  refine lv_aload_n hx hb dX7_turn_189 rfl (lv_at hl 3 rfl) ?_
  refine lv_aload_n hx hb dX7_turn_190 rfl (lv_at hl 3 rfl) ?_
  refine lv_bipush (v := 30) hx hb dX7_turn_191 (by decide) ?_
  refine x_calli (va_runV (As := [.int (nI 30)]) (rest := [.ref t]) ⟨hx, hb, hml, hown, hts⟩ (c_X7_draw l D cy lo n v1 b L xs hbl hL t (d + 2) wo ((G) 0 4) (by omega) (by omega) hT.obj (by omega) 30 (by omega) (by omega)) (cwV 1 hts gX7_turn_X7_draw rfl rfl rfl (by decide +kernel) ⟨Nat.le_of_ble_eq_true rfl, Nat.le_of_ble_eq_true rfl⟩) (preVT hP hK (x_scr hX hbl hS) (x_recv (ci := 7) (q := (RX7, TX7, 13)) hK.1 hP (by omega) (by omega) rfl hT.obj)) rfl rfl hl.1 rfl (lv_room (Nat.le_of_ble_eq_true rfl)) dX7_turn_193 ⟨Nat.le_of_ble_eq_true rfl, Nat.le_of_ble_eq_true rfl⟩) hS (fun H locs hP hS => ?_)
  refine x_gen hP (fun v2 e2 hP => ?_)
  have hT : TW cy v2 A lo n t b (d + 3) wo wr nd (G) T P := by rw [e2]; exact hT.dr
  have hF : Fr A w v2 := fun a ha => by rw [e2]; exact (xu_ne (fun q => ha (by rw [q]; exact hT.own t (by omega) (by omega)))).trans (hF a ha)
  rw [(dw_tn (L := L) (xs := xs) (d := d + 2) (N := 30) (by omega) (by omega)).1]
  have hy := (dw_tn (L := L) (xs := xs) (d := d + 2) (N := 30) (by omega) (by omega)).2
  generalize tn L xs (d + 2) 30 = y at hy ⊢
  refine x_put (ty := tyX7 8) (ref := RX7) (C := RX7) (T := TX7) (N := 13) (ci := 7) (v := .int (nI y)) hx hb hts iX7 tyX7 tyX7_ok nmX7 hown hK.1 hP hS (by omega) (by omega) hT.obj rfl 8 (by decide) (hts (.fieldLink RX7 37 "PoreFieldLaw$Told" "permit" "I") (by decide +kernel)) (fun _ h9 => h9) rfl (by decide +kernel) rfl rfl (Nat.le_of_ble_eq_true rfl) dX7_turn_196 (fun H locs hP hS => ?_)
  have hP : va_P D vwCl (rl lo n (va_up v2 t (.inr (7, tF t b (d + 3) wo (nI y))))) H := hP
  refine lv_aload_n hx hb dX7_turn_199 rfl (lv_at hl 3 rfl) ?_
  refine x_get (ref := RX7) (C := RX7) (T := TX7) (N := 13) (ci := 7) (v := .ref (t + 1)) hx hb hts iX7 hown hK.1 hP (by omega) (by omega) (xu_same _ _ _) rfl 0 (by decide) (hts (.fieldLink RX7 10 "PoreFieldLaw$Told" "m" "LPoreField;") (by decide +kernel)) (fun _ h9 => h9) rfl dX7_turn_200 ?_
  refine lv_aload_n hx hb dX7_turn_203 rfl (lv_at hl 3 rfl) ?_
  refine x_get (ref := RX7) (C := RX7) (T := TX7) (N := 13) (ci := 7) (v := .int (nI y)) hx hb hts iX7 hown hK.1 hP (by omega) (by omega) (xu_same _ _ _) rfl 8 (by decide) (hts (.fieldLink RX7 37 "PoreFieldLaw$Told" "permit" "I") (by decide +kernel)) (fun _ h9 => h9) rfl dX7_turn_204 ?_
  have hpf : pw cy (va_up v2 t (.inr (7, tF t b (d + 3) wo (nI y)))) (t + 1) G T P = va_up v2 t (.inr (7, tF t b (d + 3) wo (nI y))) := pw_ext hT.pf (fun a h1 h2 => xu_ne (by omega))
  have hP := TW.to hpf hP
  refine x_calli (va_runV (As := [.int (nI y)]) (rest := []) ⟨hx, hb, hml, hown, hts⟩ (c_X6_permit l D cy lo n (va_up v2 t (.inr (7, tF t b (d + 3) wo (nI y)))) (t + 1) G T P (by omega) (by omega) (nI y) ((nI_leI (a := 0) (b := y) (by omega) (by omega)).mpr (by omega)) ((nI_leI (a := y) (b := 99) (by omega) (by omega)).mpr (by omega))) (cwV 1 hts gX7_turn_X6_permit rfl rfl rfl (by decide +kernel) ⟨Nat.le_of_ble_eq_true rfl, Nat.le_of_ble_eq_true rfl⟩) (preV hP hK (x_recv (ci := 6) (q := (RX6, TX6, 11)) hK.1 hP (by omega) (by omega) rfl ((gw_out (by omega)).trans ((gw_out (by omega)).trans hw_0)))) rfl rfl hl.1 rfl (lv_room (Nat.le_of_ble_eq_true rfl)) dX7_turn_207 ⟨Nat.le_of_ble_eq_true rfl, Nat.le_of_ble_eq_true rfl⟩) hS (fun H locs hP hS => ?_)
  refine lv_iload hx hb dX7_turn_210 (lv_at hl 0 rfl) ?_
  refine lv_icmp_ne (tgt := 219) hx hb dX7_turn_212 (by decide) (fun h1 => absurd rfl h1) (fun h1 => ?_)
  refine lv_iconst (v := 1) hx hb dX7_turn_215 (by decide) ?_
  refine lv_goto (tgt := 220) hx hb dX7_turn_216 (by decide) ?_
  exact W.zret (v := 1) hx hb hr rfl (fun tE ht hW => ⟨⟨_, _, rfl, ⟨rfl, hT.fper, hF.tr hT.fr_per⟩, x_at ht hP⟩, hS.F ht⟩) hS.2.2 dX7_turn_220
set_option maxRecDepth 100000 in
set_option maxHeartbeats 4000000 in
/-- Told.turn: faults -/
theorem c_X7_turn_5_00 (l : Launch) (D : va_G) (cy : Nat → ClassId) (lo n : Nat) (w : Nat → va_E) (b L : Nat) (xs : Nat → Int32) (hbl : b < lo) (hL : L ≤ 260) (A : Nat → Prop) (t d wo : Nat) (wr : Nat → Nat) (nd : Nat) (G T P : Mem) (hT : TW cy w A lo n t b d wo wr nd G T P) (hG : GI nd G) (hnd : 0 < nd) (hd : d < 900000) (i : Nat) (hii : i = tn L xs d nd) (hk : tn L xs (d + 1) 8 = 5) (hz1 : tn L xs (d + 4) 2 = 0) (hz2 : tn L xs (d + 6) 2 = 0) : Met l yX7_turn wsX7_turn ({ frames := 4, cells := 0, slots := 0, locals := 100 }) (PcT D cy lo n w b L xs [.ref t]) (QxT D lo n (fun r u => r = 1 ∧ TW cy u A lo n t b (d + 7) wo wr nd (m_shut (m_shut G (tn L xs (d + 2) 3 + 4 * tn L xs (d + 3) 4) 1 1) (tn L xs (d + 5) 12) 0 1) T (P) ∧ Fr A w u)) 0 0 (fun q : Nat => lo ≤ q) := by
  refine Met.ofW (cc := cX7_turn) (maxL := 9) (ret := (some .boolean)) (by decide) rfl ?_
  intro p e s m args below meth c s₁ B hml hv
  obtain ⟨rfl, hP, hK, hS, hX⟩ := x_entryT hv
  have hx := B.exec
  have hb := B.bytes
  have hr := B.returns
  have hts := atoms_spec (ws := wsX7_turn) B.pre
  have hown : s.vm.findClass RX7 = some m.cls := findClass_of_methodNamed B.named
  have iX7 : ∀ w ∈ u_ws RX7 TX7 13, w ∈ wsX7_turn := by decide +kernel
  have htb := hT.tb
  have hnd6 := hG.1
  have hwo := hT.inn wo hT.woA.1
  have hi : i < nd := by rw [hii]; exact (dw_tn hnd (by omega)).2
  have hwr := hT.inn (wr i) (hT.wrA i hi).1
  have hwr2 := (hT.wrA i hi).2
  have hF : Fr A w w := Fr.rf
  have hl := lv_entry ([.ref t]) (n := 9) (Nat.le_of_ble_eq_true rfl)
  rw [lg_entry_eq]
  generalize (lg_sl ([.ref t]) ++ List.replicate (9 - (lg_sl ([.ref t])).length) Slot.unset).toArray = ls at hl ⊢
  have hl : lv_has ls 9 [(0, .ref t)] := hl
  refine lv_aload_n hx hb dX7_turn_0 rfl (lv_at hl 0 rfl) ?_
  refine lv_aload_n hx hb dX7_turn_1 rfl (lv_at hl 0 rfl) ?_
  refine x_get (ref := RX7) (C := RX7) (T := TX7) (N := 13) (ci := 7) (v := .ref wo) hx hb hts iX7 hown hK.1 hP (by omega) (by omega) hT.obj rfl 6 (by decide) (hts (.fieldLink RX7 31 "PoreFieldLaw$Told" "wells" "[[I") (by decide +kernel)) (fun _ h9 => h9) rfl dX7_turn_2 ?_
  obtain ⟨fw, hfw, hfi⟩ := hT.wells
  refine x_alenA hx hb hK.1 hP (by omega) (by omega) 6 hfw rfl dX7_turn_5 ?_
  refine x_calli (va_runV (As := [.int (nI nd)]) (rest := []) ⟨hx, hb, hml, hown, hts⟩ (c_X7_draw l D cy lo n w b L xs hbl hL t (d) wo ((G) 0 4) (by omega) (by omega) hT.obj (by omega) nd hnd (by omega)) (cwV 1 hts gX7_turn_X7_draw rfl rfl rfl (by decide +kernel) ⟨Nat.le_of_ble_eq_true rfl, Nat.le_of_ble_eq_true rfl⟩) (preVT hP hK (x_scr hX hbl hS) (x_recv (ci := 7) (q := (RX7, TX7, 13)) hK.1 hP (by omega) (by omega) rfl hT.obj)) rfl rfl hl.1 rfl (lv_room (Nat.le_of_ble_eq_true rfl)) dX7_turn_6 ⟨Nat.le_of_ble_eq_true rfl, Nat.le_of_ble_eq_true rfl⟩) hS (fun H locs hP hS => ?_)
  refine x_gen hP (fun v0 e0 hP => ?_)
  have hT : TW cy v0 A lo n t b (d + 1) wo wr nd (G) T P := by rw [e0]; exact hT.dr
  have hF : Fr A w v0 := fun a ha => by rw [e0]; exact (xu_ne (fun q => ha (by rw [q]; exact hT.own t (by omega) (by omega)))).trans (hF a ha)
  rw [(dw_tn (L := L) (xs := xs) (d := d) (N := nd) hnd (by omega)).1]
  rw [← hii]
  refine lv_istore_n (lv' := [(1, .int (nI i)), (0, .ref t)]) hx hb dX7_turn_9 rfl hl (by decide) rfl (fun ls hl => ?_)
  refine lv_aload_n hx hb dX7_turn_10 rfl (lv_at hl 1 rfl) ?_
  refine x_get (ref := RX7) (C := RX7) (T := TX7) (N := 13) (ci := 7) (v := .ref wo) hx hb hts iX7 hown hK.1 hP (by omega) (by omega) hT.obj rfl 6 (by decide) (hts (.fieldLink RX7 31 "PoreFieldLaw$Told" "wells" "[[I") (by decide +kernel)) (fun _ h9 => h9) rfl dX7_turn_11 ?_
  obtain ⟨fw, hfw, hfi⟩ := hT.wells
  refine lv_iload_n hx hb dX7_turn_14 rfl (lv_at hl 0 rfl) ?_
  refine x_aaldA hx hb hK.1 hP (by omega) (by omega) 6 hfw rfl (cl_of_nI (i := i) rfl (by omega)) (hfi i hi) (vp_in_of_nI (i := i) rfl (by omega) (by omega)) dX7_turn_15 ?_
  refine lv_astore_n (lv' := [(2, .ref (wr i)), (1, .int (nI i)), (0, .ref t)]) hx hb dX7_turn_16 rfl hl (by decide) rfl (fun ls hl => ?_)
  refine lv_aload_n hx hb dX7_turn_17 rfl (lv_at hl 2 rfl) ?_
  refine lv_bipush (v := 8) hx hb dX7_turn_18 (by decide) ?_
  refine x_calli (va_runV (As := [.int (nI 8)]) (rest := []) ⟨hx, hb, hml, hown, hts⟩ (c_X7_draw l D cy lo n v0 b L xs hbl hL t (d + 1) wo ((G) 0 4) (by omega) (by omega) hT.obj (by omega) 8 (by omega) (by omega)) (cwV 1 hts gX7_turn_X7_draw rfl rfl rfl (by decide +kernel) ⟨Nat.le_of_ble_eq_true rfl, Nat.le_of_ble_eq_true rfl⟩) (preVT hP hK (x_scr hX hbl hS) (x_recv (ci := 7) (q := (RX7, TX7, 13)) hK.1 hP (by omega) (by omega) rfl hT.obj)) rfl rfl hl.1 rfl (lv_room (Nat.le_of_ble_eq_true rfl)) dX7_turn_20 ⟨Nat.le_of_ble_eq_true rfl, Nat.le_of_ble_eq_true rfl⟩) hS (fun H locs hP hS => ?_)
  refine x_gen hP (fun v1 e1 hP => ?_)
  have hT : TW cy v1 A lo n t b (d + 2) wo wr nd (G) T P := by rw [e1]; exact hT.dr
  have hF : Fr A w v1 := fun a ha => by rw [e1]; exact (xu_ne (fun q => ha (by rw [q]; exact hT.own t (by omega) (by omega)))).trans (hF a ha)
  rw [(dw_tn (L := L) (xs := xs) (d := d + 1) (N := 8) (by omega) (by omega)).1]
  rw [hk]
  refine lv_tableIn (tgt := 221) (off := 198) hx hb dX7_turn_23 (by decide) (by decide) (by decide) (by decide) ?_
  refine lv_aload_n hx hb dX7_turn_221 rfl (lv_at hl 2 rfl) ?_
  refine lv_aload_n hx hb dX7_turn_222 rfl (lv_at hl 2 rfl) ?_
  refine lv_iconst (v := 3) hx hb dX7_turn_223 (by decide) ?_
  refine x_calli (va_runV (As := [.int (nI 3)]) (rest := [.ref t]) ⟨hx, hb, hml, hown, hts⟩ (c_X7_draw l D cy lo n v1 b L xs hbl hL t (d + 2) wo ((G) 0 4) (by omega) (by omega) hT.obj (by omega) 3 (by omega) (by omega)) (cwV 1 hts gX7_turn_X7_draw rfl rfl rfl (by decide +kernel) ⟨Nat.le_of_ble_eq_true rfl, Nat.le_of_ble_eq_true rfl⟩) (preVT hP hK (x_scr hX hbl hS) (x_recv (ci := 7) (q := (RX7, TX7, 13)) hK.1 hP (by omega) (by omega) rfl hT.obj)) rfl rfl hl.1 rfl (lv_room (Nat.le_of_ble_eq_true rfl)) dX7_turn_224 ⟨Nat.le_of_ble_eq_true rfl, Nat.le_of_ble_eq_true rfl⟩) hS (fun H locs hP hS => ?_)
  refine x_gen hP (fun v2 e2 hP => ?_)
  have hT : TW cy v2 A lo n t b (d + 3) wo wr nd (G) T P := by rw [e2]; exact hT.dr
  have hF : Fr A w v2 := fun a ha => by rw [e2]; exact (xu_ne (fun q => ha (by rw [q]; exact hT.own t (by omega) (by omega)))).trans (hF a ha)
  rw [(dw_tn (L := L) (xs := xs) (d := d + 2) (N := 3) (by omega) (by omega)).1]
  have hf := (dw_tn (L := L) (xs := xs) (d := d + 2) (N := 3) (by omega) (by omega)).2
  generalize tn L xs (d + 2) 3 = f at hf ⊢
  refine lv_iconst (v := 4) hx hb dX7_turn_227 (by decide) ?_
  refine lv_aload_n hx hb dX7_turn_228 rfl (lv_at hl 2 rfl) ?_
  refine lv_iconst (v := 4) hx hb dX7_turn_229 (by decide) ?_
  refine x_calli (va_runV (As := [.int (nI 4)]) (rest := [.int 4, .int (nI f), .ref t]) ⟨hx, hb, hml, hown, hts⟩ (c_X7_draw l D cy lo n v2 b L xs hbl hL t (d + 3) wo ((G) 0 4) (by omega) (by omega) hT.obj (by omega) 4 (by omega) (by omega)) (cwV 1 hts gX7_turn_X7_draw rfl rfl rfl (by decide +kernel) ⟨Nat.le_of_ble_eq_true rfl, Nat.le_of_ble_eq_true rfl⟩) (preVT hP hK (x_scr hX hbl hS) (x_recv (ci := 7) (q := (RX7, TX7, 13)) hK.1 hP (by omega) (by omega) rfl hT.obj)) rfl rfl hl.1 rfl (lv_room (Nat.le_of_ble_eq_true rfl)) dX7_turn_230 ⟨Nat.le_of_ble_eq_true rfl, Nat.le_of_ble_eq_true rfl⟩) hS (fun H locs hP hS => ?_)
  refine x_gen hP (fun v3 e3 hP => ?_)
  have hT : TW cy v3 A lo n t b (d + 4) wo wr nd (G) T P := by rw [e3]; exact hT.dr
  have hF : Fr A w v3 := fun a ha => by rw [e3]; exact (xu_ne (fun q => ha (by rw [q]; exact hT.own t (by omega) (by omega)))).trans (hF a ha)
  rw [(dw_tn (L := L) (xs := xs) (d := d + 3) (N := 4) (by omega) (by omega)).1]
  have hc4 := (dw_tn (L := L) (xs := xs) (d := d + 3) (N := 4) (by omega) (by omega)).2
  generalize tn L xs (d + 3) 4 = c4 at hc4 ⊢
  refine lv_imul hx hb dX7_turn_233 ?_
  refine lv_iadd hx hb dX7_turn_234 ?_
  have ece : nI f + 4 * nI c4 = nI (f + 4 * c4) := by
    have k : ∀ f, f < 3 → ∀ c, c < 4 → nI f + 4 * nI c = nI (f + 4 * c) := by decide +kernel
    exact k f hf c4 hc4
  rw [ece]
  refine lv_iconst (v := 1) hx hb dX7_turn_235 (by decide) ?_
  refine lv_aload_n hx hb dX7_turn_236 rfl (lv_at hl 2 rfl) ?_
  refine lv_iconst (v := 2) hx hb dX7_turn_237 (by decide) ?_
  refine x_calli (va_runV (As := [.int (nI 2)]) (rest := [.int 1, .int (nI (f + 4 * c4)), .ref t]) ⟨hx, hb, hml, hown, hts⟩ (c_X7_draw l D cy lo n v3 b L xs hbl hL t (d + 4) wo ((G) 0 4) (by omega) (by omega) hT.obj (by omega) 2 (by omega) (by omega)) (cwV 1 hts gX7_turn_X7_draw rfl rfl rfl (by decide +kernel) ⟨Nat.le_of_ble_eq_true rfl, Nat.le_of_ble_eq_true rfl⟩) (preVT hP hK (x_scr hX hbl hS) (x_recv (ci := 7) (q := (RX7, TX7, 13)) hK.1 hP (by omega) (by omega) rfl hT.obj)) rfl rfl hl.1 rfl (lv_room (Nat.le_of_ble_eq_true rfl)) dX7_turn_238 ⟨Nat.le_of_ble_eq_true rfl, Nat.le_of_ble_eq_true rfl⟩) hS (fun H locs hP hS => ?_)
  refine x_gen hP (fun v4 e4 hP => ?_)
  have hT : TW cy v4 A lo n t b (d + 5) wo wr nd (G) T P := by rw [e4]; exact hT.dr
  have hF : Fr A w v4 := fun a ha => by rw [e4]; exact (xu_ne (fun q => ha (by rw [q]; exact hT.own t (by omega) (by omega)))).trans (hF a ha)
  rw [(dw_tn (L := L) (xs := xs) (d := d + 4) (N := 2) (by omega) (by omega)).1]
  rw [hz1]
  refine lv_if_ne (tgt := 248) hx hb dX7_turn_241 (by decide) (fun h => absurd rfl h) (fun _ => ?_)
  refine lv_iconst (v := 1) hx hb dX7_turn_244 (by decide) ?_
  refine lv_goto (tgt := 249) hx hb dX7_turn_245 (by decide) ?_
  refine x_callx (va_runV (As := [.int (nI (f + 4 * c4)), .int 1, .int 1]) (rest := []) ⟨hx, hb, hml, hown, hts⟩ (c_X7_fault_1 l D cy lo n v4 b L xs A t (d + 5) wo wr nd (G) T P hT hG (f + 4 * c4) (by omega) 1 (Or.inr rfl) (nb_e hf hc4)) (cwV 3 hts gX7_turn_X7_fault rfl rfl rfl (by decide +kernel) ⟨Nat.le_of_ble_eq_true rfl, Nat.le_of_ble_eq_true rfl⟩) (preVT hP hK (x_scr hX hbl hS) (x_recv (ci := 7) (q := (RX7, TX7, 13)) hK.1 hP (by omega) (by omega) rfl hT.obj)) rfl rfl hl.1 rfl (lv_room (Nat.le_of_ble_eq_true rfl)) dX7_turn_249 ⟨Nat.le_of_ble_eq_true rfl, Nat.le_of_ble_eq_true rfl⟩) hS (fun v9 u249 H locs hX9 hP hS => ?_)
  obtain ⟨rfl, hT, hF9⟩ := hX9
  have hF := hF.tr hF9
  refine lv_if_eq (tgt := 286) hx hb dX7_turn_252 (by decide) (fun h => absurd h (by decide)) (fun _ => ?_)
  refine lv_aload_n hx hb dX7_turn_255 rfl (lv_at hl 2 rfl) ?_
  refine lv_aload_n hx hb dX7_turn_256 rfl (lv_at hl 2 rfl) ?_
  refine lv_bipush (v := 12) hx hb dX7_turn_257 (by decide) ?_
  refine x_calli (va_runV (As := [.int (nI 12)]) (rest := [.ref t]) ⟨hx, hb, hml, hown, hts⟩ (c_X7_draw l D cy lo n u249 b L xs hbl hL t (d + 5) wo ((m_shut G (f + 4 * c4) 1 1) 0 4) (by omega) (by omega) hT.obj (by omega) 12 (by omega) (by omega)) (cwV 1 hts gX7_turn_X7_draw rfl rfl rfl (by decide +kernel) ⟨Nat.le_of_ble_eq_true rfl, Nat.le_of_ble_eq_true rfl⟩) (preVT hP hK (x_scr hX hbl hS) (x_recv (ci := 7) (q := (RX7, TX7, 13)) hK.1 hP (by omega) (by omega) rfl hT.obj)) rfl rfl hl.1 rfl (lv_room (Nat.le_of_ble_eq_true rfl)) dX7_turn_259 ⟨Nat.le_of_ble_eq_true rfl, Nat.le_of_ble_eq_true rfl⟩) hS (fun H locs hP hS => ?_)
  refine x_gen hP (fun v5 e5 hP => ?_)
  have hT : TW cy v5 A lo n t b (d + 6) wo wr nd (m_shut G (f + 4 * c4) 1 1) T P := by rw [e5]; exact hT.dr
  have hF : Fr A w v5 := fun a ha => by rw [e5]; exact (xu_ne (fun q => ha (by rw [q]; exact hT.own t (by omega) (by omega)))).trans (hF a ha)
  rw [(dw_tn (L := L) (xs := xs) (d := d + 5) (N := 12) (by omega) (by omega)).1]
  have hc2 := (dw_tn (L := L) (xs := xs) (d := d + 5) (N := 12) (by omega) (by omega)).2
  generalize tn L xs (d + 5) 12 = c2 at hc2 ⊢
  refine lv_iconst (v := 0) hx hb dX7_turn_262 (by decide) ?_
  refine lv_aload_n hx hb dX7_turn_263 rfl (lv_at hl 2 rfl) ?_
  refine lv_iconst (v := 2) hx hb dX7_turn_264 (by decide) ?_
  refine x_calli (va_runV (As := [.int (nI 2)]) (rest := [.int 0, .int (nI c2), .ref t]) ⟨hx, hb, hml, hown, hts⟩ (c_X7_draw l D cy lo n v5 b L xs hbl hL t (d + 6) wo ((m_shut G (f + 4 * c4) 1 1) 0 4) (by omega) (by omega) hT.obj (by omega) 2 (by omega) (by omega)) (cwV 1 hts gX7_turn_X7_draw rfl rfl rfl (by decide +kernel) ⟨Nat.le_of_ble_eq_true rfl, Nat.le_of_ble_eq_true rfl⟩) (preVT hP hK (x_scr hX hbl hS) (x_recv (ci := 7) (q := (RX7, TX7, 13)) hK.1 hP (by omega) (by omega) rfl hT.obj)) rfl rfl hl.1 rfl (lv_room (Nat.le_of_ble_eq_true rfl)) dX7_turn_265 ⟨Nat.le_of_ble_eq_true rfl, Nat.le_of_ble_eq_true rfl⟩) hS (fun H locs hP hS => ?_)
  refine x_gen hP (fun v6 e6 hP => ?_)
  have hT : TW cy v6 A lo n t b (d + 7) wo wr nd (m_shut G (f + 4 * c4) 1 1) T P := by rw [e6]; exact hT.dr
  have hF : Fr A w v6 := fun a ha => by rw [e6]; exact (xu_ne (fun q => ha (by rw [q]; exact hT.own t (by omega) (by omega)))).trans (hF a ha)
  rw [(dw_tn (L := L) (xs := xs) (d := d + 6) (N := 2) (by omega) (by omega)).1]
  rw [hz2]
  refine lv_if_ne (tgt := 275) hx hb dX7_turn_268 (by decide) (fun h => absurd rfl h) (fun _ => ?_)
  refine lv_iconst (v := 1) hx hb dX7_turn_271 (by decide) ?_
  refine lv_goto (tgt := 276) hx hb dX7_turn_272 (by decide) ?_
  refine x_callx (va_runV (As := [.int (nI (c2)), .int 0, .int 1]) (rest := []) ⟨hx, hb, hml, hown, hts⟩ (c_X7_fault_0 l D cy lo n v6 b L xs A t (d + 7) wo wr nd (m_shut G (f + 4 * c4) 1 1) T P hT (hG.shut (by omega) (Or.inr rfl)) (c2) (by omega) 1 (Or.inr rfl) (nb_s hc2)) (cwV 3 hts gX7_turn_X7_fault rfl rfl rfl (by decide +kernel) ⟨Nat.le_of_ble_eq_true rfl, Nat.le_of_ble_eq_true rfl⟩) (preVT hP hK (x_scr hX hbl hS) (x_recv (ci := 7) (q := (RX7, TX7, 13)) hK.1 hP (by omega) (by omega) rfl hT.obj)) rfl rfl hl.1 rfl (lv_room (Nat.le_of_ble_eq_true rfl)) dX7_turn_276 ⟨Nat.le_of_ble_eq_true rfl, Nat.le_of_ble_eq_true rfl⟩) hS (fun v9 u276 H locs hX9 hP hS => ?_)
  obtain ⟨rfl, hT, hF9⟩ := hX9
  have hF := hF.tr hF9
  refine lv_if_eq (tgt := 286) hx hb dX7_turn_279 (by decide) (fun h => absurd h (by decide)) (fun _ => ?_)
  refine lv_iconst (v := 1) hx hb dX7_turn_282 (by decide) ?_
  refine lv_goto (tgt := 287) hx hb dX7_turn_283 (by decide) ?_
  exact W.zret (v := 1) hx hb hr rfl (fun tE ht hW => ⟨⟨_, _, rfl, ⟨rfl, hT, hF⟩, x_at ht hP⟩, hS.F ht⟩) hS.2.2 dX7_turn_287
set_option maxRecDepth 100000 in
set_option maxHeartbeats 4000000 in
/-- Told.turn: faults -/
theorem c_X7_turn_5_01 (l : Launch) (D : va_G) (cy : Nat → ClassId) (lo n : Nat) (w : Nat → va_E) (b L : Nat) (xs : Nat → Int32) (hbl : b < lo) (hL : L ≤ 260) (A : Nat → Prop) (t d wo : Nat) (wr : Nat → Nat) (nd : Nat) (G T P : Mem) (hT : TW cy w A lo n t b d wo wr nd G T P) (hG : GI nd G) (hnd : 0 < nd) (hd : d < 900000) (i : Nat) (hii : i = tn L xs d nd) (hk : tn L xs (d + 1) 8 = 5) (hz1 : tn L xs (d + 4) 2 = 0) (hz2 : tn L xs (d + 6) 2 = 1) : Met l yX7_turn wsX7_turn ({ frames := 4, cells := 0, slots := 0, locals := 100 }) (PcT D cy lo n w b L xs [.ref t]) (QxT D lo n (fun r u => r = 1 ∧ TW cy u A lo n t b (d + 7) wo wr nd (m_shut (m_shut G (tn L xs (d + 2) 3 + 4 * tn L xs (d + 3) 4) 1 1) (tn L xs (d + 5) 12) 0 0) T (P) ∧ Fr A w u)) 0 0 (fun q : Nat => lo ≤ q) := by
  refine Met.ofW (cc := cX7_turn) (maxL := 9) (ret := (some .boolean)) (by decide) rfl ?_
  intro p e s m args below meth c s₁ B hml hv
  obtain ⟨rfl, hP, hK, hS, hX⟩ := x_entryT hv
  have hx := B.exec
  have hb := B.bytes
  have hr := B.returns
  have hts := atoms_spec (ws := wsX7_turn) B.pre
  have hown : s.vm.findClass RX7 = some m.cls := findClass_of_methodNamed B.named
  have iX7 : ∀ w ∈ u_ws RX7 TX7 13, w ∈ wsX7_turn := by decide +kernel
  have htb := hT.tb
  have hnd6 := hG.1
  have hwo := hT.inn wo hT.woA.1
  have hi : i < nd := by rw [hii]; exact (dw_tn hnd (by omega)).2
  have hwr := hT.inn (wr i) (hT.wrA i hi).1
  have hwr2 := (hT.wrA i hi).2
  have hF : Fr A w w := Fr.rf
  have hl := lv_entry ([.ref t]) (n := 9) (Nat.le_of_ble_eq_true rfl)
  rw [lg_entry_eq]
  generalize (lg_sl ([.ref t]) ++ List.replicate (9 - (lg_sl ([.ref t])).length) Slot.unset).toArray = ls at hl ⊢
  have hl : lv_has ls 9 [(0, .ref t)] := hl
  refine lv_aload_n hx hb dX7_turn_0 rfl (lv_at hl 0 rfl) ?_
  refine lv_aload_n hx hb dX7_turn_1 rfl (lv_at hl 0 rfl) ?_
  refine x_get (ref := RX7) (C := RX7) (T := TX7) (N := 13) (ci := 7) (v := .ref wo) hx hb hts iX7 hown hK.1 hP (by omega) (by omega) hT.obj rfl 6 (by decide) (hts (.fieldLink RX7 31 "PoreFieldLaw$Told" "wells" "[[I") (by decide +kernel)) (fun _ h9 => h9) rfl dX7_turn_2 ?_
  obtain ⟨fw, hfw, hfi⟩ := hT.wells
  refine x_alenA hx hb hK.1 hP (by omega) (by omega) 6 hfw rfl dX7_turn_5 ?_
  refine x_calli (va_runV (As := [.int (nI nd)]) (rest := []) ⟨hx, hb, hml, hown, hts⟩ (c_X7_draw l D cy lo n w b L xs hbl hL t (d) wo ((G) 0 4) (by omega) (by omega) hT.obj (by omega) nd hnd (by omega)) (cwV 1 hts gX7_turn_X7_draw rfl rfl rfl (by decide +kernel) ⟨Nat.le_of_ble_eq_true rfl, Nat.le_of_ble_eq_true rfl⟩) (preVT hP hK (x_scr hX hbl hS) (x_recv (ci := 7) (q := (RX7, TX7, 13)) hK.1 hP (by omega) (by omega) rfl hT.obj)) rfl rfl hl.1 rfl (lv_room (Nat.le_of_ble_eq_true rfl)) dX7_turn_6 ⟨Nat.le_of_ble_eq_true rfl, Nat.le_of_ble_eq_true rfl⟩) hS (fun H locs hP hS => ?_)
  refine x_gen hP (fun v0 e0 hP => ?_)
  have hT : TW cy v0 A lo n t b (d + 1) wo wr nd (G) T P := by rw [e0]; exact hT.dr
  have hF : Fr A w v0 := fun a ha => by rw [e0]; exact (xu_ne (fun q => ha (by rw [q]; exact hT.own t (by omega) (by omega)))).trans (hF a ha)
  rw [(dw_tn (L := L) (xs := xs) (d := d) (N := nd) hnd (by omega)).1]
  rw [← hii]
  refine lv_istore_n (lv' := [(1, .int (nI i)), (0, .ref t)]) hx hb dX7_turn_9 rfl hl (by decide) rfl (fun ls hl => ?_)
  refine lv_aload_n hx hb dX7_turn_10 rfl (lv_at hl 1 rfl) ?_
  refine x_get (ref := RX7) (C := RX7) (T := TX7) (N := 13) (ci := 7) (v := .ref wo) hx hb hts iX7 hown hK.1 hP (by omega) (by omega) hT.obj rfl 6 (by decide) (hts (.fieldLink RX7 31 "PoreFieldLaw$Told" "wells" "[[I") (by decide +kernel)) (fun _ h9 => h9) rfl dX7_turn_11 ?_
  obtain ⟨fw, hfw, hfi⟩ := hT.wells
  refine lv_iload_n hx hb dX7_turn_14 rfl (lv_at hl 0 rfl) ?_
  refine x_aaldA hx hb hK.1 hP (by omega) (by omega) 6 hfw rfl (cl_of_nI (i := i) rfl (by omega)) (hfi i hi) (vp_in_of_nI (i := i) rfl (by omega) (by omega)) dX7_turn_15 ?_
  refine lv_astore_n (lv' := [(2, .ref (wr i)), (1, .int (nI i)), (0, .ref t)]) hx hb dX7_turn_16 rfl hl (by decide) rfl (fun ls hl => ?_)
  refine lv_aload_n hx hb dX7_turn_17 rfl (lv_at hl 2 rfl) ?_
  refine lv_bipush (v := 8) hx hb dX7_turn_18 (by decide) ?_
  refine x_calli (va_runV (As := [.int (nI 8)]) (rest := []) ⟨hx, hb, hml, hown, hts⟩ (c_X7_draw l D cy lo n v0 b L xs hbl hL t (d + 1) wo ((G) 0 4) (by omega) (by omega) hT.obj (by omega) 8 (by omega) (by omega)) (cwV 1 hts gX7_turn_X7_draw rfl rfl rfl (by decide +kernel) ⟨Nat.le_of_ble_eq_true rfl, Nat.le_of_ble_eq_true rfl⟩) (preVT hP hK (x_scr hX hbl hS) (x_recv (ci := 7) (q := (RX7, TX7, 13)) hK.1 hP (by omega) (by omega) rfl hT.obj)) rfl rfl hl.1 rfl (lv_room (Nat.le_of_ble_eq_true rfl)) dX7_turn_20 ⟨Nat.le_of_ble_eq_true rfl, Nat.le_of_ble_eq_true rfl⟩) hS (fun H locs hP hS => ?_)
  refine x_gen hP (fun v1 e1 hP => ?_)
  have hT : TW cy v1 A lo n t b (d + 2) wo wr nd (G) T P := by rw [e1]; exact hT.dr
  have hF : Fr A w v1 := fun a ha => by rw [e1]; exact (xu_ne (fun q => ha (by rw [q]; exact hT.own t (by omega) (by omega)))).trans (hF a ha)
  rw [(dw_tn (L := L) (xs := xs) (d := d + 1) (N := 8) (by omega) (by omega)).1]
  rw [hk]
  refine lv_tableIn (tgt := 221) (off := 198) hx hb dX7_turn_23 (by decide) (by decide) (by decide) (by decide) ?_
  refine lv_aload_n hx hb dX7_turn_221 rfl (lv_at hl 2 rfl) ?_
  refine lv_aload_n hx hb dX7_turn_222 rfl (lv_at hl 2 rfl) ?_
  refine lv_iconst (v := 3) hx hb dX7_turn_223 (by decide) ?_
  refine x_calli (va_runV (As := [.int (nI 3)]) (rest := [.ref t]) ⟨hx, hb, hml, hown, hts⟩ (c_X7_draw l D cy lo n v1 b L xs hbl hL t (d + 2) wo ((G) 0 4) (by omega) (by omega) hT.obj (by omega) 3 (by omega) (by omega)) (cwV 1 hts gX7_turn_X7_draw rfl rfl rfl (by decide +kernel) ⟨Nat.le_of_ble_eq_true rfl, Nat.le_of_ble_eq_true rfl⟩) (preVT hP hK (x_scr hX hbl hS) (x_recv (ci := 7) (q := (RX7, TX7, 13)) hK.1 hP (by omega) (by omega) rfl hT.obj)) rfl rfl hl.1 rfl (lv_room (Nat.le_of_ble_eq_true rfl)) dX7_turn_224 ⟨Nat.le_of_ble_eq_true rfl, Nat.le_of_ble_eq_true rfl⟩) hS (fun H locs hP hS => ?_)
  refine x_gen hP (fun v2 e2 hP => ?_)
  have hT : TW cy v2 A lo n t b (d + 3) wo wr nd (G) T P := by rw [e2]; exact hT.dr
  have hF : Fr A w v2 := fun a ha => by rw [e2]; exact (xu_ne (fun q => ha (by rw [q]; exact hT.own t (by omega) (by omega)))).trans (hF a ha)
  rw [(dw_tn (L := L) (xs := xs) (d := d + 2) (N := 3) (by omega) (by omega)).1]
  have hf := (dw_tn (L := L) (xs := xs) (d := d + 2) (N := 3) (by omega) (by omega)).2
  generalize tn L xs (d + 2) 3 = f at hf ⊢
  refine lv_iconst (v := 4) hx hb dX7_turn_227 (by decide) ?_
  refine lv_aload_n hx hb dX7_turn_228 rfl (lv_at hl 2 rfl) ?_
  refine lv_iconst (v := 4) hx hb dX7_turn_229 (by decide) ?_
  refine x_calli (va_runV (As := [.int (nI 4)]) (rest := [.int 4, .int (nI f), .ref t]) ⟨hx, hb, hml, hown, hts⟩ (c_X7_draw l D cy lo n v2 b L xs hbl hL t (d + 3) wo ((G) 0 4) (by omega) (by omega) hT.obj (by omega) 4 (by omega) (by omega)) (cwV 1 hts gX7_turn_X7_draw rfl rfl rfl (by decide +kernel) ⟨Nat.le_of_ble_eq_true rfl, Nat.le_of_ble_eq_true rfl⟩) (preVT hP hK (x_scr hX hbl hS) (x_recv (ci := 7) (q := (RX7, TX7, 13)) hK.1 hP (by omega) (by omega) rfl hT.obj)) rfl rfl hl.1 rfl (lv_room (Nat.le_of_ble_eq_true rfl)) dX7_turn_230 ⟨Nat.le_of_ble_eq_true rfl, Nat.le_of_ble_eq_true rfl⟩) hS (fun H locs hP hS => ?_)
  refine x_gen hP (fun v3 e3 hP => ?_)
  have hT : TW cy v3 A lo n t b (d + 4) wo wr nd (G) T P := by rw [e3]; exact hT.dr
  have hF : Fr A w v3 := fun a ha => by rw [e3]; exact (xu_ne (fun q => ha (by rw [q]; exact hT.own t (by omega) (by omega)))).trans (hF a ha)
  rw [(dw_tn (L := L) (xs := xs) (d := d + 3) (N := 4) (by omega) (by omega)).1]
  have hc4 := (dw_tn (L := L) (xs := xs) (d := d + 3) (N := 4) (by omega) (by omega)).2
  generalize tn L xs (d + 3) 4 = c4 at hc4 ⊢
  refine lv_imul hx hb dX7_turn_233 ?_
  refine lv_iadd hx hb dX7_turn_234 ?_
  have ece : nI f + 4 * nI c4 = nI (f + 4 * c4) := by
    have k : ∀ f, f < 3 → ∀ c, c < 4 → nI f + 4 * nI c = nI (f + 4 * c) := by decide +kernel
    exact k f hf c4 hc4
  rw [ece]
  refine lv_iconst (v := 1) hx hb dX7_turn_235 (by decide) ?_
  refine lv_aload_n hx hb dX7_turn_236 rfl (lv_at hl 2 rfl) ?_
  refine lv_iconst (v := 2) hx hb dX7_turn_237 (by decide) ?_
  refine x_calli (va_runV (As := [.int (nI 2)]) (rest := [.int 1, .int (nI (f + 4 * c4)), .ref t]) ⟨hx, hb, hml, hown, hts⟩ (c_X7_draw l D cy lo n v3 b L xs hbl hL t (d + 4) wo ((G) 0 4) (by omega) (by omega) hT.obj (by omega) 2 (by omega) (by omega)) (cwV 1 hts gX7_turn_X7_draw rfl rfl rfl (by decide +kernel) ⟨Nat.le_of_ble_eq_true rfl, Nat.le_of_ble_eq_true rfl⟩) (preVT hP hK (x_scr hX hbl hS) (x_recv (ci := 7) (q := (RX7, TX7, 13)) hK.1 hP (by omega) (by omega) rfl hT.obj)) rfl rfl hl.1 rfl (lv_room (Nat.le_of_ble_eq_true rfl)) dX7_turn_238 ⟨Nat.le_of_ble_eq_true rfl, Nat.le_of_ble_eq_true rfl⟩) hS (fun H locs hP hS => ?_)
  refine x_gen hP (fun v4 e4 hP => ?_)
  have hT : TW cy v4 A lo n t b (d + 5) wo wr nd (G) T P := by rw [e4]; exact hT.dr
  have hF : Fr A w v4 := fun a ha => by rw [e4]; exact (xu_ne (fun q => ha (by rw [q]; exact hT.own t (by omega) (by omega)))).trans (hF a ha)
  rw [(dw_tn (L := L) (xs := xs) (d := d + 4) (N := 2) (by omega) (by omega)).1]
  rw [hz1]
  refine lv_if_ne (tgt := 248) hx hb dX7_turn_241 (by decide) (fun h => absurd rfl h) (fun _ => ?_)
  refine lv_iconst (v := 1) hx hb dX7_turn_244 (by decide) ?_
  refine lv_goto (tgt := 249) hx hb dX7_turn_245 (by decide) ?_
  refine x_callx (va_runV (As := [.int (nI (f + 4 * c4)), .int 1, .int 1]) (rest := []) ⟨hx, hb, hml, hown, hts⟩ (c_X7_fault_1 l D cy lo n v4 b L xs A t (d + 5) wo wr nd (G) T P hT hG (f + 4 * c4) (by omega) 1 (Or.inr rfl) (nb_e hf hc4)) (cwV 3 hts gX7_turn_X7_fault rfl rfl rfl (by decide +kernel) ⟨Nat.le_of_ble_eq_true rfl, Nat.le_of_ble_eq_true rfl⟩) (preVT hP hK (x_scr hX hbl hS) (x_recv (ci := 7) (q := (RX7, TX7, 13)) hK.1 hP (by omega) (by omega) rfl hT.obj)) rfl rfl hl.1 rfl (lv_room (Nat.le_of_ble_eq_true rfl)) dX7_turn_249 ⟨Nat.le_of_ble_eq_true rfl, Nat.le_of_ble_eq_true rfl⟩) hS (fun v9 u249 H locs hX9 hP hS => ?_)
  obtain ⟨rfl, hT, hF9⟩ := hX9
  have hF := hF.tr hF9
  refine lv_if_eq (tgt := 286) hx hb dX7_turn_252 (by decide) (fun h => absurd h (by decide)) (fun _ => ?_)
  refine lv_aload_n hx hb dX7_turn_255 rfl (lv_at hl 2 rfl) ?_
  refine lv_aload_n hx hb dX7_turn_256 rfl (lv_at hl 2 rfl) ?_
  refine lv_bipush (v := 12) hx hb dX7_turn_257 (by decide) ?_
  refine x_calli (va_runV (As := [.int (nI 12)]) (rest := [.ref t]) ⟨hx, hb, hml, hown, hts⟩ (c_X7_draw l D cy lo n u249 b L xs hbl hL t (d + 5) wo ((m_shut G (f + 4 * c4) 1 1) 0 4) (by omega) (by omega) hT.obj (by omega) 12 (by omega) (by omega)) (cwV 1 hts gX7_turn_X7_draw rfl rfl rfl (by decide +kernel) ⟨Nat.le_of_ble_eq_true rfl, Nat.le_of_ble_eq_true rfl⟩) (preVT hP hK (x_scr hX hbl hS) (x_recv (ci := 7) (q := (RX7, TX7, 13)) hK.1 hP (by omega) (by omega) rfl hT.obj)) rfl rfl hl.1 rfl (lv_room (Nat.le_of_ble_eq_true rfl)) dX7_turn_259 ⟨Nat.le_of_ble_eq_true rfl, Nat.le_of_ble_eq_true rfl⟩) hS (fun H locs hP hS => ?_)
  refine x_gen hP (fun v5 e5 hP => ?_)
  have hT : TW cy v5 A lo n t b (d + 6) wo wr nd (m_shut G (f + 4 * c4) 1 1) T P := by rw [e5]; exact hT.dr
  have hF : Fr A w v5 := fun a ha => by rw [e5]; exact (xu_ne (fun q => ha (by rw [q]; exact hT.own t (by omega) (by omega)))).trans (hF a ha)
  rw [(dw_tn (L := L) (xs := xs) (d := d + 5) (N := 12) (by omega) (by omega)).1]
  have hc2 := (dw_tn (L := L) (xs := xs) (d := d + 5) (N := 12) (by omega) (by omega)).2
  generalize tn L xs (d + 5) 12 = c2 at hc2 ⊢
  refine lv_iconst (v := 0) hx hb dX7_turn_262 (by decide) ?_
  refine lv_aload_n hx hb dX7_turn_263 rfl (lv_at hl 2 rfl) ?_
  refine lv_iconst (v := 2) hx hb dX7_turn_264 (by decide) ?_
  refine x_calli (va_runV (As := [.int (nI 2)]) (rest := [.int 0, .int (nI c2), .ref t]) ⟨hx, hb, hml, hown, hts⟩ (c_X7_draw l D cy lo n v5 b L xs hbl hL t (d + 6) wo ((m_shut G (f + 4 * c4) 1 1) 0 4) (by omega) (by omega) hT.obj (by omega) 2 (by omega) (by omega)) (cwV 1 hts gX7_turn_X7_draw rfl rfl rfl (by decide +kernel) ⟨Nat.le_of_ble_eq_true rfl, Nat.le_of_ble_eq_true rfl⟩) (preVT hP hK (x_scr hX hbl hS) (x_recv (ci := 7) (q := (RX7, TX7, 13)) hK.1 hP (by omega) (by omega) rfl hT.obj)) rfl rfl hl.1 rfl (lv_room (Nat.le_of_ble_eq_true rfl)) dX7_turn_265 ⟨Nat.le_of_ble_eq_true rfl, Nat.le_of_ble_eq_true rfl⟩) hS (fun H locs hP hS => ?_)
  refine x_gen hP (fun v6 e6 hP => ?_)
  have hT : TW cy v6 A lo n t b (d + 7) wo wr nd (m_shut G (f + 4 * c4) 1 1) T P := by rw [e6]; exact hT.dr
  have hF : Fr A w v6 := fun a ha => by rw [e6]; exact (xu_ne (fun q => ha (by rw [q]; exact hT.own t (by omega) (by omega)))).trans (hF a ha)
  rw [(dw_tn (L := L) (xs := xs) (d := d + 6) (N := 2) (by omega) (by omega)).1]
  rw [hz2]
  refine lv_if_ne (tgt := 275) hx hb dX7_turn_268 (by decide) (fun _ => ?_) (fun h => absurd h (show ¬ nI 1 = 0 by decide))
  refine lv_iconst (v := 0) hx hb dX7_turn_275 (by decide) ?_
  refine x_callx (va_runV (As := [.int (nI (c2)), .int 0, .int 0]) (rest := []) ⟨hx, hb, hml, hown, hts⟩ (c_X7_fault_0 l D cy lo n v6 b L xs A t (d + 7) wo wr nd (m_shut G (f + 4 * c4) 1 1) T P hT (hG.shut (by omega) (Or.inr rfl)) (c2) (by omega) 0 (Or.inl rfl) (nb_s hc2)) (cwV 3 hts gX7_turn_X7_fault rfl rfl rfl (by decide +kernel) ⟨Nat.le_of_ble_eq_true rfl, Nat.le_of_ble_eq_true rfl⟩) (preVT hP hK (x_scr hX hbl hS) (x_recv (ci := 7) (q := (RX7, TX7, 13)) hK.1 hP (by omega) (by omega) rfl hT.obj)) rfl rfl hl.1 rfl (lv_room (Nat.le_of_ble_eq_true rfl)) dX7_turn_276 ⟨Nat.le_of_ble_eq_true rfl, Nat.le_of_ble_eq_true rfl⟩) hS (fun v9 u276 H locs hX9 hP hS => ?_)
  obtain ⟨rfl, hT, hF9⟩ := hX9
  have hF := hF.tr hF9
  refine lv_if_eq (tgt := 286) hx hb dX7_turn_279 (by decide) (fun h => absurd h (by decide)) (fun _ => ?_)
  refine lv_iconst (v := 1) hx hb dX7_turn_282 (by decide) ?_
  refine lv_goto (tgt := 287) hx hb dX7_turn_283 (by decide) ?_
  exact W.zret (v := 1) hx hb hr rfl (fun tE ht hW => ⟨⟨_, _, rfl, ⟨rfl, hT, hF⟩, x_at ht hP⟩, hS.F ht⟩) hS.2.2 dX7_turn_287
set_option maxRecDepth 100000 in
set_option maxHeartbeats 4000000 in
/-- Told.turn: faults -/
theorem c_X7_turn_5_10 (l : Launch) (D : va_G) (cy : Nat → ClassId) (lo n : Nat) (w : Nat → va_E) (b L : Nat) (xs : Nat → Int32) (hbl : b < lo) (hL : L ≤ 260) (A : Nat → Prop) (t d wo : Nat) (wr : Nat → Nat) (nd : Nat) (G T P : Mem) (hT : TW cy w A lo n t b d wo wr nd G T P) (hG : GI nd G) (hnd : 0 < nd) (hd : d < 900000) (i : Nat) (hii : i = tn L xs d nd) (hk : tn L xs (d + 1) 8 = 5) (hz1 : tn L xs (d + 4) 2 = 1) (hz2 : tn L xs (d + 6) 2 = 0) : Met l yX7_turn wsX7_turn ({ frames := 4, cells := 0, slots := 0, locals := 100 }) (PcT D cy lo n w b L xs [.ref t]) (QxT D lo n (fun r u => r = 1 ∧ TW cy u A lo n t b (d + 7) wo wr nd (m_shut (m_shut G (tn L xs (d + 2) 3 + 4 * tn L xs (d + 3) 4) 1 0) (tn L xs (d + 5) 12) 0 1) T (P) ∧ Fr A w u)) 0 0 (fun q : Nat => lo ≤ q) := by
  refine Met.ofW (cc := cX7_turn) (maxL := 9) (ret := (some .boolean)) (by decide) rfl ?_
  intro p e s m args below meth c s₁ B hml hv
  obtain ⟨rfl, hP, hK, hS, hX⟩ := x_entryT hv
  have hx := B.exec
  have hb := B.bytes
  have hr := B.returns
  have hts := atoms_spec (ws := wsX7_turn) B.pre
  have hown : s.vm.findClass RX7 = some m.cls := findClass_of_methodNamed B.named
  have iX7 : ∀ w ∈ u_ws RX7 TX7 13, w ∈ wsX7_turn := by decide +kernel
  have htb := hT.tb
  have hnd6 := hG.1
  have hwo := hT.inn wo hT.woA.1
  have hi : i < nd := by rw [hii]; exact (dw_tn hnd (by omega)).2
  have hwr := hT.inn (wr i) (hT.wrA i hi).1
  have hwr2 := (hT.wrA i hi).2
  have hF : Fr A w w := Fr.rf
  have hl := lv_entry ([.ref t]) (n := 9) (Nat.le_of_ble_eq_true rfl)
  rw [lg_entry_eq]
  generalize (lg_sl ([.ref t]) ++ List.replicate (9 - (lg_sl ([.ref t])).length) Slot.unset).toArray = ls at hl ⊢
  have hl : lv_has ls 9 [(0, .ref t)] := hl
  refine lv_aload_n hx hb dX7_turn_0 rfl (lv_at hl 0 rfl) ?_
  refine lv_aload_n hx hb dX7_turn_1 rfl (lv_at hl 0 rfl) ?_
  refine x_get (ref := RX7) (C := RX7) (T := TX7) (N := 13) (ci := 7) (v := .ref wo) hx hb hts iX7 hown hK.1 hP (by omega) (by omega) hT.obj rfl 6 (by decide) (hts (.fieldLink RX7 31 "PoreFieldLaw$Told" "wells" "[[I") (by decide +kernel)) (fun _ h9 => h9) rfl dX7_turn_2 ?_
  obtain ⟨fw, hfw, hfi⟩ := hT.wells
  refine x_alenA hx hb hK.1 hP (by omega) (by omega) 6 hfw rfl dX7_turn_5 ?_
  refine x_calli (va_runV (As := [.int (nI nd)]) (rest := []) ⟨hx, hb, hml, hown, hts⟩ (c_X7_draw l D cy lo n w b L xs hbl hL t (d) wo ((G) 0 4) (by omega) (by omega) hT.obj (by omega) nd hnd (by omega)) (cwV 1 hts gX7_turn_X7_draw rfl rfl rfl (by decide +kernel) ⟨Nat.le_of_ble_eq_true rfl, Nat.le_of_ble_eq_true rfl⟩) (preVT hP hK (x_scr hX hbl hS) (x_recv (ci := 7) (q := (RX7, TX7, 13)) hK.1 hP (by omega) (by omega) rfl hT.obj)) rfl rfl hl.1 rfl (lv_room (Nat.le_of_ble_eq_true rfl)) dX7_turn_6 ⟨Nat.le_of_ble_eq_true rfl, Nat.le_of_ble_eq_true rfl⟩) hS (fun H locs hP hS => ?_)
  refine x_gen hP (fun v0 e0 hP => ?_)
  have hT : TW cy v0 A lo n t b (d + 1) wo wr nd (G) T P := by rw [e0]; exact hT.dr
  have hF : Fr A w v0 := fun a ha => by rw [e0]; exact (xu_ne (fun q => ha (by rw [q]; exact hT.own t (by omega) (by omega)))).trans (hF a ha)
  rw [(dw_tn (L := L) (xs := xs) (d := d) (N := nd) hnd (by omega)).1]
  rw [← hii]
  refine lv_istore_n (lv' := [(1, .int (nI i)), (0, .ref t)]) hx hb dX7_turn_9 rfl hl (by decide) rfl (fun ls hl => ?_)
  refine lv_aload_n hx hb dX7_turn_10 rfl (lv_at hl 1 rfl) ?_
  refine x_get (ref := RX7) (C := RX7) (T := TX7) (N := 13) (ci := 7) (v := .ref wo) hx hb hts iX7 hown hK.1 hP (by omega) (by omega) hT.obj rfl 6 (by decide) (hts (.fieldLink RX7 31 "PoreFieldLaw$Told" "wells" "[[I") (by decide +kernel)) (fun _ h9 => h9) rfl dX7_turn_11 ?_
  obtain ⟨fw, hfw, hfi⟩ := hT.wells
  refine lv_iload_n hx hb dX7_turn_14 rfl (lv_at hl 0 rfl) ?_
  refine x_aaldA hx hb hK.1 hP (by omega) (by omega) 6 hfw rfl (cl_of_nI (i := i) rfl (by omega)) (hfi i hi) (vp_in_of_nI (i := i) rfl (by omega) (by omega)) dX7_turn_15 ?_
  refine lv_astore_n (lv' := [(2, .ref (wr i)), (1, .int (nI i)), (0, .ref t)]) hx hb dX7_turn_16 rfl hl (by decide) rfl (fun ls hl => ?_)
  refine lv_aload_n hx hb dX7_turn_17 rfl (lv_at hl 2 rfl) ?_
  refine lv_bipush (v := 8) hx hb dX7_turn_18 (by decide) ?_
  refine x_calli (va_runV (As := [.int (nI 8)]) (rest := []) ⟨hx, hb, hml, hown, hts⟩ (c_X7_draw l D cy lo n v0 b L xs hbl hL t (d + 1) wo ((G) 0 4) (by omega) (by omega) hT.obj (by omega) 8 (by omega) (by omega)) (cwV 1 hts gX7_turn_X7_draw rfl rfl rfl (by decide +kernel) ⟨Nat.le_of_ble_eq_true rfl, Nat.le_of_ble_eq_true rfl⟩) (preVT hP hK (x_scr hX hbl hS) (x_recv (ci := 7) (q := (RX7, TX7, 13)) hK.1 hP (by omega) (by omega) rfl hT.obj)) rfl rfl hl.1 rfl (lv_room (Nat.le_of_ble_eq_true rfl)) dX7_turn_20 ⟨Nat.le_of_ble_eq_true rfl, Nat.le_of_ble_eq_true rfl⟩) hS (fun H locs hP hS => ?_)
  refine x_gen hP (fun v1 e1 hP => ?_)
  have hT : TW cy v1 A lo n t b (d + 2) wo wr nd (G) T P := by rw [e1]; exact hT.dr
  have hF : Fr A w v1 := fun a ha => by rw [e1]; exact (xu_ne (fun q => ha (by rw [q]; exact hT.own t (by omega) (by omega)))).trans (hF a ha)
  rw [(dw_tn (L := L) (xs := xs) (d := d + 1) (N := 8) (by omega) (by omega)).1]
  rw [hk]
  refine lv_tableIn (tgt := 221) (off := 198) hx hb dX7_turn_23 (by decide) (by decide) (by decide) (by decide) ?_
  refine lv_aload_n hx hb dX7_turn_221 rfl (lv_at hl 2 rfl) ?_
  refine lv_aload_n hx hb dX7_turn_222 rfl (lv_at hl 2 rfl) ?_
  refine lv_iconst (v := 3) hx hb dX7_turn_223 (by decide) ?_
  refine x_calli (va_runV (As := [.int (nI 3)]) (rest := [.ref t]) ⟨hx, hb, hml, hown, hts⟩ (c_X7_draw l D cy lo n v1 b L xs hbl hL t (d + 2) wo ((G) 0 4) (by omega) (by omega) hT.obj (by omega) 3 (by omega) (by omega)) (cwV 1 hts gX7_turn_X7_draw rfl rfl rfl (by decide +kernel) ⟨Nat.le_of_ble_eq_true rfl, Nat.le_of_ble_eq_true rfl⟩) (preVT hP hK (x_scr hX hbl hS) (x_recv (ci := 7) (q := (RX7, TX7, 13)) hK.1 hP (by omega) (by omega) rfl hT.obj)) rfl rfl hl.1 rfl (lv_room (Nat.le_of_ble_eq_true rfl)) dX7_turn_224 ⟨Nat.le_of_ble_eq_true rfl, Nat.le_of_ble_eq_true rfl⟩) hS (fun H locs hP hS => ?_)
  refine x_gen hP (fun v2 e2 hP => ?_)
  have hT : TW cy v2 A lo n t b (d + 3) wo wr nd (G) T P := by rw [e2]; exact hT.dr
  have hF : Fr A w v2 := fun a ha => by rw [e2]; exact (xu_ne (fun q => ha (by rw [q]; exact hT.own t (by omega) (by omega)))).trans (hF a ha)
  rw [(dw_tn (L := L) (xs := xs) (d := d + 2) (N := 3) (by omega) (by omega)).1]
  have hf := (dw_tn (L := L) (xs := xs) (d := d + 2) (N := 3) (by omega) (by omega)).2
  generalize tn L xs (d + 2) 3 = f at hf ⊢
  refine lv_iconst (v := 4) hx hb dX7_turn_227 (by decide) ?_
  refine lv_aload_n hx hb dX7_turn_228 rfl (lv_at hl 2 rfl) ?_
  refine lv_iconst (v := 4) hx hb dX7_turn_229 (by decide) ?_
  refine x_calli (va_runV (As := [.int (nI 4)]) (rest := [.int 4, .int (nI f), .ref t]) ⟨hx, hb, hml, hown, hts⟩ (c_X7_draw l D cy lo n v2 b L xs hbl hL t (d + 3) wo ((G) 0 4) (by omega) (by omega) hT.obj (by omega) 4 (by omega) (by omega)) (cwV 1 hts gX7_turn_X7_draw rfl rfl rfl (by decide +kernel) ⟨Nat.le_of_ble_eq_true rfl, Nat.le_of_ble_eq_true rfl⟩) (preVT hP hK (x_scr hX hbl hS) (x_recv (ci := 7) (q := (RX7, TX7, 13)) hK.1 hP (by omega) (by omega) rfl hT.obj)) rfl rfl hl.1 rfl (lv_room (Nat.le_of_ble_eq_true rfl)) dX7_turn_230 ⟨Nat.le_of_ble_eq_true rfl, Nat.le_of_ble_eq_true rfl⟩) hS (fun H locs hP hS => ?_)
  refine x_gen hP (fun v3 e3 hP => ?_)
  have hT : TW cy v3 A lo n t b (d + 4) wo wr nd (G) T P := by rw [e3]; exact hT.dr
  have hF : Fr A w v3 := fun a ha => by rw [e3]; exact (xu_ne (fun q => ha (by rw [q]; exact hT.own t (by omega) (by omega)))).trans (hF a ha)
  rw [(dw_tn (L := L) (xs := xs) (d := d + 3) (N := 4) (by omega) (by omega)).1]
  have hc4 := (dw_tn (L := L) (xs := xs) (d := d + 3) (N := 4) (by omega) (by omega)).2
  generalize tn L xs (d + 3) 4 = c4 at hc4 ⊢
  refine lv_imul hx hb dX7_turn_233 ?_
  refine lv_iadd hx hb dX7_turn_234 ?_
  have ece : nI f + 4 * nI c4 = nI (f + 4 * c4) := by
    have k : ∀ f, f < 3 → ∀ c, c < 4 → nI f + 4 * nI c = nI (f + 4 * c) := by decide +kernel
    exact k f hf c4 hc4
  rw [ece]
  refine lv_iconst (v := 1) hx hb dX7_turn_235 (by decide) ?_
  refine lv_aload_n hx hb dX7_turn_236 rfl (lv_at hl 2 rfl) ?_
  refine lv_iconst (v := 2) hx hb dX7_turn_237 (by decide) ?_
  refine x_calli (va_runV (As := [.int (nI 2)]) (rest := [.int 1, .int (nI (f + 4 * c4)), .ref t]) ⟨hx, hb, hml, hown, hts⟩ (c_X7_draw l D cy lo n v3 b L xs hbl hL t (d + 4) wo ((G) 0 4) (by omega) (by omega) hT.obj (by omega) 2 (by omega) (by omega)) (cwV 1 hts gX7_turn_X7_draw rfl rfl rfl (by decide +kernel) ⟨Nat.le_of_ble_eq_true rfl, Nat.le_of_ble_eq_true rfl⟩) (preVT hP hK (x_scr hX hbl hS) (x_recv (ci := 7) (q := (RX7, TX7, 13)) hK.1 hP (by omega) (by omega) rfl hT.obj)) rfl rfl hl.1 rfl (lv_room (Nat.le_of_ble_eq_true rfl)) dX7_turn_238 ⟨Nat.le_of_ble_eq_true rfl, Nat.le_of_ble_eq_true rfl⟩) hS (fun H locs hP hS => ?_)
  refine x_gen hP (fun v4 e4 hP => ?_)
  have hT : TW cy v4 A lo n t b (d + 5) wo wr nd (G) T P := by rw [e4]; exact hT.dr
  have hF : Fr A w v4 := fun a ha => by rw [e4]; exact (xu_ne (fun q => ha (by rw [q]; exact hT.own t (by omega) (by omega)))).trans (hF a ha)
  rw [(dw_tn (L := L) (xs := xs) (d := d + 4) (N := 2) (by omega) (by omega)).1]
  rw [hz1]
  refine lv_if_ne (tgt := 248) hx hb dX7_turn_241 (by decide) (fun _ => ?_) (fun h => absurd h (show ¬ nI 1 = 0 by decide))
  refine lv_iconst (v := 0) hx hb dX7_turn_248 (by decide) ?_
  refine x_callx (va_runV (As := [.int (nI (f + 4 * c4)), .int 1, .int 0]) (rest := []) ⟨hx, hb, hml, hown, hts⟩ (c_X7_fault_1 l D cy lo n v4 b L xs A t (d + 5) wo wr nd (G) T P hT hG (f + 4 * c4) (by omega) 0 (Or.inl rfl) (nb_e hf hc4)) (cwV 3 hts gX7_turn_X7_fault rfl rfl rfl (by decide +kernel) ⟨Nat.le_of_ble_eq_true rfl, Nat.le_of_ble_eq_true rfl⟩) (preVT hP hK (x_scr hX hbl hS) (x_recv (ci := 7) (q := (RX7, TX7, 13)) hK.1 hP (by omega) (by omega) rfl hT.obj)) rfl rfl hl.1 rfl (lv_room (Nat.le_of_ble_eq_true rfl)) dX7_turn_249 ⟨Nat.le_of_ble_eq_true rfl, Nat.le_of_ble_eq_true rfl⟩) hS (fun v9 u249 H locs hX9 hP hS => ?_)
  obtain ⟨rfl, hT, hF9⟩ := hX9
  have hF := hF.tr hF9
  refine lv_if_eq (tgt := 286) hx hb dX7_turn_252 (by decide) (fun h => absurd h (by decide)) (fun _ => ?_)
  refine lv_aload_n hx hb dX7_turn_255 rfl (lv_at hl 2 rfl) ?_
  refine lv_aload_n hx hb dX7_turn_256 rfl (lv_at hl 2 rfl) ?_
  refine lv_bipush (v := 12) hx hb dX7_turn_257 (by decide) ?_
  refine x_calli (va_runV (As := [.int (nI 12)]) (rest := [.ref t]) ⟨hx, hb, hml, hown, hts⟩ (c_X7_draw l D cy lo n u249 b L xs hbl hL t (d + 5) wo ((m_shut G (f + 4 * c4) 1 0) 0 4) (by omega) (by omega) hT.obj (by omega) 12 (by omega) (by omega)) (cwV 1 hts gX7_turn_X7_draw rfl rfl rfl (by decide +kernel) ⟨Nat.le_of_ble_eq_true rfl, Nat.le_of_ble_eq_true rfl⟩) (preVT hP hK (x_scr hX hbl hS) (x_recv (ci := 7) (q := (RX7, TX7, 13)) hK.1 hP (by omega) (by omega) rfl hT.obj)) rfl rfl hl.1 rfl (lv_room (Nat.le_of_ble_eq_true rfl)) dX7_turn_259 ⟨Nat.le_of_ble_eq_true rfl, Nat.le_of_ble_eq_true rfl⟩) hS (fun H locs hP hS => ?_)
  refine x_gen hP (fun v5 e5 hP => ?_)
  have hT : TW cy v5 A lo n t b (d + 6) wo wr nd (m_shut G (f + 4 * c4) 1 0) T P := by rw [e5]; exact hT.dr
  have hF : Fr A w v5 := fun a ha => by rw [e5]; exact (xu_ne (fun q => ha (by rw [q]; exact hT.own t (by omega) (by omega)))).trans (hF a ha)
  rw [(dw_tn (L := L) (xs := xs) (d := d + 5) (N := 12) (by omega) (by omega)).1]
  have hc2 := (dw_tn (L := L) (xs := xs) (d := d + 5) (N := 12) (by omega) (by omega)).2
  generalize tn L xs (d + 5) 12 = c2 at hc2 ⊢
  refine lv_iconst (v := 0) hx hb dX7_turn_262 (by decide) ?_
  refine lv_aload_n hx hb dX7_turn_263 rfl (lv_at hl 2 rfl) ?_
  refine lv_iconst (v := 2) hx hb dX7_turn_264 (by decide) ?_
  refine x_calli (va_runV (As := [.int (nI 2)]) (rest := [.int 0, .int (nI c2), .ref t]) ⟨hx, hb, hml, hown, hts⟩ (c_X7_draw l D cy lo n v5 b L xs hbl hL t (d + 6) wo ((m_shut G (f + 4 * c4) 1 0) 0 4) (by omega) (by omega) hT.obj (by omega) 2 (by omega) (by omega)) (cwV 1 hts gX7_turn_X7_draw rfl rfl rfl (by decide +kernel) ⟨Nat.le_of_ble_eq_true rfl, Nat.le_of_ble_eq_true rfl⟩) (preVT hP hK (x_scr hX hbl hS) (x_recv (ci := 7) (q := (RX7, TX7, 13)) hK.1 hP (by omega) (by omega) rfl hT.obj)) rfl rfl hl.1 rfl (lv_room (Nat.le_of_ble_eq_true rfl)) dX7_turn_265 ⟨Nat.le_of_ble_eq_true rfl, Nat.le_of_ble_eq_true rfl⟩) hS (fun H locs hP hS => ?_)
  refine x_gen hP (fun v6 e6 hP => ?_)
  have hT : TW cy v6 A lo n t b (d + 7) wo wr nd (m_shut G (f + 4 * c4) 1 0) T P := by rw [e6]; exact hT.dr
  have hF : Fr A w v6 := fun a ha => by rw [e6]; exact (xu_ne (fun q => ha (by rw [q]; exact hT.own t (by omega) (by omega)))).trans (hF a ha)
  rw [(dw_tn (L := L) (xs := xs) (d := d + 6) (N := 2) (by omega) (by omega)).1]
  rw [hz2]
  refine lv_if_ne (tgt := 275) hx hb dX7_turn_268 (by decide) (fun h => absurd rfl h) (fun _ => ?_)
  refine lv_iconst (v := 1) hx hb dX7_turn_271 (by decide) ?_
  refine lv_goto (tgt := 276) hx hb dX7_turn_272 (by decide) ?_
  refine x_callx (va_runV (As := [.int (nI (c2)), .int 0, .int 1]) (rest := []) ⟨hx, hb, hml, hown, hts⟩ (c_X7_fault_0 l D cy lo n v6 b L xs A t (d + 7) wo wr nd (m_shut G (f + 4 * c4) 1 0) T P hT (hG.shut (by omega) (Or.inl rfl)) (c2) (by omega) 1 (Or.inr rfl) (nb_s hc2)) (cwV 3 hts gX7_turn_X7_fault rfl rfl rfl (by decide +kernel) ⟨Nat.le_of_ble_eq_true rfl, Nat.le_of_ble_eq_true rfl⟩) (preVT hP hK (x_scr hX hbl hS) (x_recv (ci := 7) (q := (RX7, TX7, 13)) hK.1 hP (by omega) (by omega) rfl hT.obj)) rfl rfl hl.1 rfl (lv_room (Nat.le_of_ble_eq_true rfl)) dX7_turn_276 ⟨Nat.le_of_ble_eq_true rfl, Nat.le_of_ble_eq_true rfl⟩) hS (fun v9 u276 H locs hX9 hP hS => ?_)
  obtain ⟨rfl, hT, hF9⟩ := hX9
  have hF := hF.tr hF9
  refine lv_if_eq (tgt := 286) hx hb dX7_turn_279 (by decide) (fun h => absurd h (by decide)) (fun _ => ?_)
  refine lv_iconst (v := 1) hx hb dX7_turn_282 (by decide) ?_
  refine lv_goto (tgt := 287) hx hb dX7_turn_283 (by decide) ?_
  exact W.zret (v := 1) hx hb hr rfl (fun tE ht hW => ⟨⟨_, _, rfl, ⟨rfl, hT, hF⟩, x_at ht hP⟩, hS.F ht⟩) hS.2.2 dX7_turn_287
set_option maxRecDepth 100000 in
set_option maxHeartbeats 4000000 in
/-- Told.turn: faults -/
theorem c_X7_turn_5_11 (l : Launch) (D : va_G) (cy : Nat → ClassId) (lo n : Nat) (w : Nat → va_E) (b L : Nat) (xs : Nat → Int32) (hbl : b < lo) (hL : L ≤ 260) (A : Nat → Prop) (t d wo : Nat) (wr : Nat → Nat) (nd : Nat) (G T P : Mem) (hT : TW cy w A lo n t b d wo wr nd G T P) (hG : GI nd G) (hnd : 0 < nd) (hd : d < 900000) (i : Nat) (hii : i = tn L xs d nd) (hk : tn L xs (d + 1) 8 = 5) (hz1 : tn L xs (d + 4) 2 = 1) (hz2 : tn L xs (d + 6) 2 = 1) : Met l yX7_turn wsX7_turn ({ frames := 4, cells := 0, slots := 0, locals := 100 }) (PcT D cy lo n w b L xs [.ref t]) (QxT D lo n (fun r u => r = 1 ∧ TW cy u A lo n t b (d + 7) wo wr nd (m_shut (m_shut G (tn L xs (d + 2) 3 + 4 * tn L xs (d + 3) 4) 1 0) (tn L xs (d + 5) 12) 0 0) T (P) ∧ Fr A w u)) 0 0 (fun q : Nat => lo ≤ q) := by
  refine Met.ofW (cc := cX7_turn) (maxL := 9) (ret := (some .boolean)) (by decide) rfl ?_
  intro p e s m args below meth c s₁ B hml hv
  obtain ⟨rfl, hP, hK, hS, hX⟩ := x_entryT hv
  have hx := B.exec
  have hb := B.bytes
  have hr := B.returns
  have hts := atoms_spec (ws := wsX7_turn) B.pre
  have hown : s.vm.findClass RX7 = some m.cls := findClass_of_methodNamed B.named
  have iX7 : ∀ w ∈ u_ws RX7 TX7 13, w ∈ wsX7_turn := by decide +kernel
  have htb := hT.tb
  have hnd6 := hG.1
  have hwo := hT.inn wo hT.woA.1
  have hi : i < nd := by rw [hii]; exact (dw_tn hnd (by omega)).2
  have hwr := hT.inn (wr i) (hT.wrA i hi).1
  have hwr2 := (hT.wrA i hi).2
  have hF : Fr A w w := Fr.rf
  have hl := lv_entry ([.ref t]) (n := 9) (Nat.le_of_ble_eq_true rfl)
  rw [lg_entry_eq]
  generalize (lg_sl ([.ref t]) ++ List.replicate (9 - (lg_sl ([.ref t])).length) Slot.unset).toArray = ls at hl ⊢
  have hl : lv_has ls 9 [(0, .ref t)] := hl
  refine lv_aload_n hx hb dX7_turn_0 rfl (lv_at hl 0 rfl) ?_
  refine lv_aload_n hx hb dX7_turn_1 rfl (lv_at hl 0 rfl) ?_
  refine x_get (ref := RX7) (C := RX7) (T := TX7) (N := 13) (ci := 7) (v := .ref wo) hx hb hts iX7 hown hK.1 hP (by omega) (by omega) hT.obj rfl 6 (by decide) (hts (.fieldLink RX7 31 "PoreFieldLaw$Told" "wells" "[[I") (by decide +kernel)) (fun _ h9 => h9) rfl dX7_turn_2 ?_
  obtain ⟨fw, hfw, hfi⟩ := hT.wells
  refine x_alenA hx hb hK.1 hP (by omega) (by omega) 6 hfw rfl dX7_turn_5 ?_
  refine x_calli (va_runV (As := [.int (nI nd)]) (rest := []) ⟨hx, hb, hml, hown, hts⟩ (c_X7_draw l D cy lo n w b L xs hbl hL t (d) wo ((G) 0 4) (by omega) (by omega) hT.obj (by omega) nd hnd (by omega)) (cwV 1 hts gX7_turn_X7_draw rfl rfl rfl (by decide +kernel) ⟨Nat.le_of_ble_eq_true rfl, Nat.le_of_ble_eq_true rfl⟩) (preVT hP hK (x_scr hX hbl hS) (x_recv (ci := 7) (q := (RX7, TX7, 13)) hK.1 hP (by omega) (by omega) rfl hT.obj)) rfl rfl hl.1 rfl (lv_room (Nat.le_of_ble_eq_true rfl)) dX7_turn_6 ⟨Nat.le_of_ble_eq_true rfl, Nat.le_of_ble_eq_true rfl⟩) hS (fun H locs hP hS => ?_)
  refine x_gen hP (fun v0 e0 hP => ?_)
  have hT : TW cy v0 A lo n t b (d + 1) wo wr nd (G) T P := by rw [e0]; exact hT.dr
  have hF : Fr A w v0 := fun a ha => by rw [e0]; exact (xu_ne (fun q => ha (by rw [q]; exact hT.own t (by omega) (by omega)))).trans (hF a ha)
  rw [(dw_tn (L := L) (xs := xs) (d := d) (N := nd) hnd (by omega)).1]
  rw [← hii]
  refine lv_istore_n (lv' := [(1, .int (nI i)), (0, .ref t)]) hx hb dX7_turn_9 rfl hl (by decide) rfl (fun ls hl => ?_)
  refine lv_aload_n hx hb dX7_turn_10 rfl (lv_at hl 1 rfl) ?_
  refine x_get (ref := RX7) (C := RX7) (T := TX7) (N := 13) (ci := 7) (v := .ref wo) hx hb hts iX7 hown hK.1 hP (by omega) (by omega) hT.obj rfl 6 (by decide) (hts (.fieldLink RX7 31 "PoreFieldLaw$Told" "wells" "[[I") (by decide +kernel)) (fun _ h9 => h9) rfl dX7_turn_11 ?_
  obtain ⟨fw, hfw, hfi⟩ := hT.wells
  refine lv_iload_n hx hb dX7_turn_14 rfl (lv_at hl 0 rfl) ?_
  refine x_aaldA hx hb hK.1 hP (by omega) (by omega) 6 hfw rfl (cl_of_nI (i := i) rfl (by omega)) (hfi i hi) (vp_in_of_nI (i := i) rfl (by omega) (by omega)) dX7_turn_15 ?_
  refine lv_astore_n (lv' := [(2, .ref (wr i)), (1, .int (nI i)), (0, .ref t)]) hx hb dX7_turn_16 rfl hl (by decide) rfl (fun ls hl => ?_)
  refine lv_aload_n hx hb dX7_turn_17 rfl (lv_at hl 2 rfl) ?_
  refine lv_bipush (v := 8) hx hb dX7_turn_18 (by decide) ?_
  refine x_calli (va_runV (As := [.int (nI 8)]) (rest := []) ⟨hx, hb, hml, hown, hts⟩ (c_X7_draw l D cy lo n v0 b L xs hbl hL t (d + 1) wo ((G) 0 4) (by omega) (by omega) hT.obj (by omega) 8 (by omega) (by omega)) (cwV 1 hts gX7_turn_X7_draw rfl rfl rfl (by decide +kernel) ⟨Nat.le_of_ble_eq_true rfl, Nat.le_of_ble_eq_true rfl⟩) (preVT hP hK (x_scr hX hbl hS) (x_recv (ci := 7) (q := (RX7, TX7, 13)) hK.1 hP (by omega) (by omega) rfl hT.obj)) rfl rfl hl.1 rfl (lv_room (Nat.le_of_ble_eq_true rfl)) dX7_turn_20 ⟨Nat.le_of_ble_eq_true rfl, Nat.le_of_ble_eq_true rfl⟩) hS (fun H locs hP hS => ?_)
  refine x_gen hP (fun v1 e1 hP => ?_)
  have hT : TW cy v1 A lo n t b (d + 2) wo wr nd (G) T P := by rw [e1]; exact hT.dr
  have hF : Fr A w v1 := fun a ha => by rw [e1]; exact (xu_ne (fun q => ha (by rw [q]; exact hT.own t (by omega) (by omega)))).trans (hF a ha)
  rw [(dw_tn (L := L) (xs := xs) (d := d + 1) (N := 8) (by omega) (by omega)).1]
  rw [hk]
  refine lv_tableIn (tgt := 221) (off := 198) hx hb dX7_turn_23 (by decide) (by decide) (by decide) (by decide) ?_
  refine lv_aload_n hx hb dX7_turn_221 rfl (lv_at hl 2 rfl) ?_
  refine lv_aload_n hx hb dX7_turn_222 rfl (lv_at hl 2 rfl) ?_
  refine lv_iconst (v := 3) hx hb dX7_turn_223 (by decide) ?_
  refine x_calli (va_runV (As := [.int (nI 3)]) (rest := [.ref t]) ⟨hx, hb, hml, hown, hts⟩ (c_X7_draw l D cy lo n v1 b L xs hbl hL t (d + 2) wo ((G) 0 4) (by omega) (by omega) hT.obj (by omega) 3 (by omega) (by omega)) (cwV 1 hts gX7_turn_X7_draw rfl rfl rfl (by decide +kernel) ⟨Nat.le_of_ble_eq_true rfl, Nat.le_of_ble_eq_true rfl⟩) (preVT hP hK (x_scr hX hbl hS) (x_recv (ci := 7) (q := (RX7, TX7, 13)) hK.1 hP (by omega) (by omega) rfl hT.obj)) rfl rfl hl.1 rfl (lv_room (Nat.le_of_ble_eq_true rfl)) dX7_turn_224 ⟨Nat.le_of_ble_eq_true rfl, Nat.le_of_ble_eq_true rfl⟩) hS (fun H locs hP hS => ?_)
  refine x_gen hP (fun v2 e2 hP => ?_)
  have hT : TW cy v2 A lo n t b (d + 3) wo wr nd (G) T P := by rw [e2]; exact hT.dr
  have hF : Fr A w v2 := fun a ha => by rw [e2]; exact (xu_ne (fun q => ha (by rw [q]; exact hT.own t (by omega) (by omega)))).trans (hF a ha)
  rw [(dw_tn (L := L) (xs := xs) (d := d + 2) (N := 3) (by omega) (by omega)).1]
  have hf := (dw_tn (L := L) (xs := xs) (d := d + 2) (N := 3) (by omega) (by omega)).2
  generalize tn L xs (d + 2) 3 = f at hf ⊢
  refine lv_iconst (v := 4) hx hb dX7_turn_227 (by decide) ?_
  refine lv_aload_n hx hb dX7_turn_228 rfl (lv_at hl 2 rfl) ?_
  refine lv_iconst (v := 4) hx hb dX7_turn_229 (by decide) ?_
  refine x_calli (va_runV (As := [.int (nI 4)]) (rest := [.int 4, .int (nI f), .ref t]) ⟨hx, hb, hml, hown, hts⟩ (c_X7_draw l D cy lo n v2 b L xs hbl hL t (d + 3) wo ((G) 0 4) (by omega) (by omega) hT.obj (by omega) 4 (by omega) (by omega)) (cwV 1 hts gX7_turn_X7_draw rfl rfl rfl (by decide +kernel) ⟨Nat.le_of_ble_eq_true rfl, Nat.le_of_ble_eq_true rfl⟩) (preVT hP hK (x_scr hX hbl hS) (x_recv (ci := 7) (q := (RX7, TX7, 13)) hK.1 hP (by omega) (by omega) rfl hT.obj)) rfl rfl hl.1 rfl (lv_room (Nat.le_of_ble_eq_true rfl)) dX7_turn_230 ⟨Nat.le_of_ble_eq_true rfl, Nat.le_of_ble_eq_true rfl⟩) hS (fun H locs hP hS => ?_)
  refine x_gen hP (fun v3 e3 hP => ?_)
  have hT : TW cy v3 A lo n t b (d + 4) wo wr nd (G) T P := by rw [e3]; exact hT.dr
  have hF : Fr A w v3 := fun a ha => by rw [e3]; exact (xu_ne (fun q => ha (by rw [q]; exact hT.own t (by omega) (by omega)))).trans (hF a ha)
  rw [(dw_tn (L := L) (xs := xs) (d := d + 3) (N := 4) (by omega) (by omega)).1]
  have hc4 := (dw_tn (L := L) (xs := xs) (d := d + 3) (N := 4) (by omega) (by omega)).2
  generalize tn L xs (d + 3) 4 = c4 at hc4 ⊢
  refine lv_imul hx hb dX7_turn_233 ?_
  refine lv_iadd hx hb dX7_turn_234 ?_
  have ece : nI f + 4 * nI c4 = nI (f + 4 * c4) := by
    have k : ∀ f, f < 3 → ∀ c, c < 4 → nI f + 4 * nI c = nI (f + 4 * c) := by decide +kernel
    exact k f hf c4 hc4
  rw [ece]
  refine lv_iconst (v := 1) hx hb dX7_turn_235 (by decide) ?_
  refine lv_aload_n hx hb dX7_turn_236 rfl (lv_at hl 2 rfl) ?_
  refine lv_iconst (v := 2) hx hb dX7_turn_237 (by decide) ?_
  refine x_calli (va_runV (As := [.int (nI 2)]) (rest := [.int 1, .int (nI (f + 4 * c4)), .ref t]) ⟨hx, hb, hml, hown, hts⟩ (c_X7_draw l D cy lo n v3 b L xs hbl hL t (d + 4) wo ((G) 0 4) (by omega) (by omega) hT.obj (by omega) 2 (by omega) (by omega)) (cwV 1 hts gX7_turn_X7_draw rfl rfl rfl (by decide +kernel) ⟨Nat.le_of_ble_eq_true rfl, Nat.le_of_ble_eq_true rfl⟩) (preVT hP hK (x_scr hX hbl hS) (x_recv (ci := 7) (q := (RX7, TX7, 13)) hK.1 hP (by omega) (by omega) rfl hT.obj)) rfl rfl hl.1 rfl (lv_room (Nat.le_of_ble_eq_true rfl)) dX7_turn_238 ⟨Nat.le_of_ble_eq_true rfl, Nat.le_of_ble_eq_true rfl⟩) hS (fun H locs hP hS => ?_)
  refine x_gen hP (fun v4 e4 hP => ?_)
  have hT : TW cy v4 A lo n t b (d + 5) wo wr nd (G) T P := by rw [e4]; exact hT.dr
  have hF : Fr A w v4 := fun a ha => by rw [e4]; exact (xu_ne (fun q => ha (by rw [q]; exact hT.own t (by omega) (by omega)))).trans (hF a ha)
  rw [(dw_tn (L := L) (xs := xs) (d := d + 4) (N := 2) (by omega) (by omega)).1]
  rw [hz1]
  refine lv_if_ne (tgt := 248) hx hb dX7_turn_241 (by decide) (fun _ => ?_) (fun h => absurd h (show ¬ nI 1 = 0 by decide))
  refine lv_iconst (v := 0) hx hb dX7_turn_248 (by decide) ?_
  refine x_callx (va_runV (As := [.int (nI (f + 4 * c4)), .int 1, .int 0]) (rest := []) ⟨hx, hb, hml, hown, hts⟩ (c_X7_fault_1 l D cy lo n v4 b L xs A t (d + 5) wo wr nd (G) T P hT hG (f + 4 * c4) (by omega) 0 (Or.inl rfl) (nb_e hf hc4)) (cwV 3 hts gX7_turn_X7_fault rfl rfl rfl (by decide +kernel) ⟨Nat.le_of_ble_eq_true rfl, Nat.le_of_ble_eq_true rfl⟩) (preVT hP hK (x_scr hX hbl hS) (x_recv (ci := 7) (q := (RX7, TX7, 13)) hK.1 hP (by omega) (by omega) rfl hT.obj)) rfl rfl hl.1 rfl (lv_room (Nat.le_of_ble_eq_true rfl)) dX7_turn_249 ⟨Nat.le_of_ble_eq_true rfl, Nat.le_of_ble_eq_true rfl⟩) hS (fun v9 u249 H locs hX9 hP hS => ?_)
  obtain ⟨rfl, hT, hF9⟩ := hX9
  have hF := hF.tr hF9
  refine lv_if_eq (tgt := 286) hx hb dX7_turn_252 (by decide) (fun h => absurd h (by decide)) (fun _ => ?_)
  refine lv_aload_n hx hb dX7_turn_255 rfl (lv_at hl 2 rfl) ?_
  refine lv_aload_n hx hb dX7_turn_256 rfl (lv_at hl 2 rfl) ?_
  refine lv_bipush (v := 12) hx hb dX7_turn_257 (by decide) ?_
  refine x_calli (va_runV (As := [.int (nI 12)]) (rest := [.ref t]) ⟨hx, hb, hml, hown, hts⟩ (c_X7_draw l D cy lo n u249 b L xs hbl hL t (d + 5) wo ((m_shut G (f + 4 * c4) 1 0) 0 4) (by omega) (by omega) hT.obj (by omega) 12 (by omega) (by omega)) (cwV 1 hts gX7_turn_X7_draw rfl rfl rfl (by decide +kernel) ⟨Nat.le_of_ble_eq_true rfl, Nat.le_of_ble_eq_true rfl⟩) (preVT hP hK (x_scr hX hbl hS) (x_recv (ci := 7) (q := (RX7, TX7, 13)) hK.1 hP (by omega) (by omega) rfl hT.obj)) rfl rfl hl.1 rfl (lv_room (Nat.le_of_ble_eq_true rfl)) dX7_turn_259 ⟨Nat.le_of_ble_eq_true rfl, Nat.le_of_ble_eq_true rfl⟩) hS (fun H locs hP hS => ?_)
  refine x_gen hP (fun v5 e5 hP => ?_)
  have hT : TW cy v5 A lo n t b (d + 6) wo wr nd (m_shut G (f + 4 * c4) 1 0) T P := by rw [e5]; exact hT.dr
  have hF : Fr A w v5 := fun a ha => by rw [e5]; exact (xu_ne (fun q => ha (by rw [q]; exact hT.own t (by omega) (by omega)))).trans (hF a ha)
  rw [(dw_tn (L := L) (xs := xs) (d := d + 5) (N := 12) (by omega) (by omega)).1]
  have hc2 := (dw_tn (L := L) (xs := xs) (d := d + 5) (N := 12) (by omega) (by omega)).2
  generalize tn L xs (d + 5) 12 = c2 at hc2 ⊢
  refine lv_iconst (v := 0) hx hb dX7_turn_262 (by decide) ?_
  refine lv_aload_n hx hb dX7_turn_263 rfl (lv_at hl 2 rfl) ?_
  refine lv_iconst (v := 2) hx hb dX7_turn_264 (by decide) ?_
  refine x_calli (va_runV (As := [.int (nI 2)]) (rest := [.int 0, .int (nI c2), .ref t]) ⟨hx, hb, hml, hown, hts⟩ (c_X7_draw l D cy lo n v5 b L xs hbl hL t (d + 6) wo ((m_shut G (f + 4 * c4) 1 0) 0 4) (by omega) (by omega) hT.obj (by omega) 2 (by omega) (by omega)) (cwV 1 hts gX7_turn_X7_draw rfl rfl rfl (by decide +kernel) ⟨Nat.le_of_ble_eq_true rfl, Nat.le_of_ble_eq_true rfl⟩) (preVT hP hK (x_scr hX hbl hS) (x_recv (ci := 7) (q := (RX7, TX7, 13)) hK.1 hP (by omega) (by omega) rfl hT.obj)) rfl rfl hl.1 rfl (lv_room (Nat.le_of_ble_eq_true rfl)) dX7_turn_265 ⟨Nat.le_of_ble_eq_true rfl, Nat.le_of_ble_eq_true rfl⟩) hS (fun H locs hP hS => ?_)
  refine x_gen hP (fun v6 e6 hP => ?_)
  have hT : TW cy v6 A lo n t b (d + 7) wo wr nd (m_shut G (f + 4 * c4) 1 0) T P := by rw [e6]; exact hT.dr
  have hF : Fr A w v6 := fun a ha => by rw [e6]; exact (xu_ne (fun q => ha (by rw [q]; exact hT.own t (by omega) (by omega)))).trans (hF a ha)
  rw [(dw_tn (L := L) (xs := xs) (d := d + 6) (N := 2) (by omega) (by omega)).1]
  rw [hz2]
  refine lv_if_ne (tgt := 275) hx hb dX7_turn_268 (by decide) (fun _ => ?_) (fun h => absurd h (show ¬ nI 1 = 0 by decide))
  refine lv_iconst (v := 0) hx hb dX7_turn_275 (by decide) ?_
  refine x_callx (va_runV (As := [.int (nI (c2)), .int 0, .int 0]) (rest := []) ⟨hx, hb, hml, hown, hts⟩ (c_X7_fault_0 l D cy lo n v6 b L xs A t (d + 7) wo wr nd (m_shut G (f + 4 * c4) 1 0) T P hT (hG.shut (by omega) (Or.inl rfl)) (c2) (by omega) 0 (Or.inl rfl) (nb_s hc2)) (cwV 3 hts gX7_turn_X7_fault rfl rfl rfl (by decide +kernel) ⟨Nat.le_of_ble_eq_true rfl, Nat.le_of_ble_eq_true rfl⟩) (preVT hP hK (x_scr hX hbl hS) (x_recv (ci := 7) (q := (RX7, TX7, 13)) hK.1 hP (by omega) (by omega) rfl hT.obj)) rfl rfl hl.1 rfl (lv_room (Nat.le_of_ble_eq_true rfl)) dX7_turn_276 ⟨Nat.le_of_ble_eq_true rfl, Nat.le_of_ble_eq_true rfl⟩) hS (fun v9 u276 H locs hX9 hP hS => ?_)
  obtain ⟨rfl, hT, hF9⟩ := hX9
  have hF := hF.tr hF9
  refine lv_if_eq (tgt := 286) hx hb dX7_turn_279 (by decide) (fun h => absurd h (by decide)) (fun _ => ?_)
  refine lv_iconst (v := 1) hx hb dX7_turn_282 (by decide) ?_
  refine lv_goto (tgt := 287) hx hb dX7_turn_283 (by decide) ?_
  exact W.zret (v := 1) hx hb hr rfl (fun tE ht hW => ⟨⟨_, _, rfl, ⟨rfl, hT, hF⟩, x_at ht hP⟩, hS.F ht⟩) hS.2.2 dX7_turn_287
set_option maxRecDepth 100000 in
set_option maxHeartbeats 4000000 in
/-- Told.turn: no plug -/
theorem c_X7_turn_6n (l : Launch) (D : va_G) (cy : Nat → ClassId) (lo n : Nat) (w : Nat → va_E) (b L : Nat) (xs : Nat → Int32) (hbl : b < lo) (hL : L ≤ 260) (A : Nat → Prop) (t d wo : Nat) (wr : Nat → Nat) (nd : Nat) (G T P : Mem) (hT : TW cy w A lo n t b d wo wr nd G T P) (hG : GI nd G) (hnd : 0 < nd) (hd : d < 900000) (i : Nat) (hii : i = tn L xs d nd) (hk : tn L xs (d + 1) 8 = 6) (h5 : 0 < tn L xs (d + 2) 5) : Met l yX7_turn wsX7_turn ({ frames := 4, cells := 0, slots := 0, locals := 100 }) (PcT D cy lo n w b L xs [.ref t]) (QxT D lo n (fun r u => r = 1 ∧ TW cy u A lo n t b (d + 3) wo wr nd (G) T (P) ∧ Fr A w u)) 0 0 (fun q : Nat => lo ≤ q) := by
  refine Met.ofW (cc := cX7_turn) (maxL := 9) (ret := (some .boolean)) (by decide) rfl ?_
  intro p e s m args below meth c s₁ B hml hv
  obtain ⟨rfl, hP, hK, hS, hX⟩ := x_entryT hv
  have hx := B.exec
  have hb := B.bytes
  have hr := B.returns
  have hts := atoms_spec (ws := wsX7_turn) B.pre
  have hown : s.vm.findClass RX7 = some m.cls := findClass_of_methodNamed B.named
  have iX7 : ∀ w ∈ u_ws RX7 TX7 13, w ∈ wsX7_turn := by decide +kernel
  have htb := hT.tb
  have hnd6 := hG.1
  have hwo := hT.inn wo hT.woA.1
  have hi : i < nd := by rw [hii]; exact (dw_tn hnd (by omega)).2
  have hwr := hT.inn (wr i) (hT.wrA i hi).1
  have hwr2 := (hT.wrA i hi).2
  have hF : Fr A w w := Fr.rf
  have hl := lv_entry ([.ref t]) (n := 9) (Nat.le_of_ble_eq_true rfl)
  rw [lg_entry_eq]
  generalize (lg_sl ([.ref t]) ++ List.replicate (9 - (lg_sl ([.ref t])).length) Slot.unset).toArray = ls at hl ⊢
  have hl : lv_has ls 9 [(0, .ref t)] := hl
  refine lv_aload_n hx hb dX7_turn_0 rfl (lv_at hl 0 rfl) ?_
  refine lv_aload_n hx hb dX7_turn_1 rfl (lv_at hl 0 rfl) ?_
  refine x_get (ref := RX7) (C := RX7) (T := TX7) (N := 13) (ci := 7) (v := .ref wo) hx hb hts iX7 hown hK.1 hP (by omega) (by omega) hT.obj rfl 6 (by decide) (hts (.fieldLink RX7 31 "PoreFieldLaw$Told" "wells" "[[I") (by decide +kernel)) (fun _ h9 => h9) rfl dX7_turn_2 ?_
  obtain ⟨fw, hfw, hfi⟩ := hT.wells
  refine x_alenA hx hb hK.1 hP (by omega) (by omega) 6 hfw rfl dX7_turn_5 ?_
  refine x_calli (va_runV (As := [.int (nI nd)]) (rest := []) ⟨hx, hb, hml, hown, hts⟩ (c_X7_draw l D cy lo n w b L xs hbl hL t (d) wo ((G) 0 4) (by omega) (by omega) hT.obj (by omega) nd hnd (by omega)) (cwV 1 hts gX7_turn_X7_draw rfl rfl rfl (by decide +kernel) ⟨Nat.le_of_ble_eq_true rfl, Nat.le_of_ble_eq_true rfl⟩) (preVT hP hK (x_scr hX hbl hS) (x_recv (ci := 7) (q := (RX7, TX7, 13)) hK.1 hP (by omega) (by omega) rfl hT.obj)) rfl rfl hl.1 rfl (lv_room (Nat.le_of_ble_eq_true rfl)) dX7_turn_6 ⟨Nat.le_of_ble_eq_true rfl, Nat.le_of_ble_eq_true rfl⟩) hS (fun H locs hP hS => ?_)
  refine x_gen hP (fun v0 e0 hP => ?_)
  have hT : TW cy v0 A lo n t b (d + 1) wo wr nd (G) T P := by rw [e0]; exact hT.dr
  have hF : Fr A w v0 := fun a ha => by rw [e0]; exact (xu_ne (fun q => ha (by rw [q]; exact hT.own t (by omega) (by omega)))).trans (hF a ha)
  rw [(dw_tn (L := L) (xs := xs) (d := d) (N := nd) hnd (by omega)).1]
  rw [← hii]
  refine lv_istore_n (lv' := [(1, .int (nI i)), (0, .ref t)]) hx hb dX7_turn_9 rfl hl (by decide) rfl (fun ls hl => ?_)
  refine lv_aload_n hx hb dX7_turn_10 rfl (lv_at hl 1 rfl) ?_
  refine x_get (ref := RX7) (C := RX7) (T := TX7) (N := 13) (ci := 7) (v := .ref wo) hx hb hts iX7 hown hK.1 hP (by omega) (by omega) hT.obj rfl 6 (by decide) (hts (.fieldLink RX7 31 "PoreFieldLaw$Told" "wells" "[[I") (by decide +kernel)) (fun _ h9 => h9) rfl dX7_turn_11 ?_
  obtain ⟨fw, hfw, hfi⟩ := hT.wells
  refine lv_iload_n hx hb dX7_turn_14 rfl (lv_at hl 0 rfl) ?_
  refine x_aaldA hx hb hK.1 hP (by omega) (by omega) 6 hfw rfl (cl_of_nI (i := i) rfl (by omega)) (hfi i hi) (vp_in_of_nI (i := i) rfl (by omega) (by omega)) dX7_turn_15 ?_
  refine lv_astore_n (lv' := [(2, .ref (wr i)), (1, .int (nI i)), (0, .ref t)]) hx hb dX7_turn_16 rfl hl (by decide) rfl (fun ls hl => ?_)
  refine lv_aload_n hx hb dX7_turn_17 rfl (lv_at hl 2 rfl) ?_
  refine lv_bipush (v := 8) hx hb dX7_turn_18 (by decide) ?_
  refine x_calli (va_runV (As := [.int (nI 8)]) (rest := []) ⟨hx, hb, hml, hown, hts⟩ (c_X7_draw l D cy lo n v0 b L xs hbl hL t (d + 1) wo ((G) 0 4) (by omega) (by omega) hT.obj (by omega) 8 (by omega) (by omega)) (cwV 1 hts gX7_turn_X7_draw rfl rfl rfl (by decide +kernel) ⟨Nat.le_of_ble_eq_true rfl, Nat.le_of_ble_eq_true rfl⟩) (preVT hP hK (x_scr hX hbl hS) (x_recv (ci := 7) (q := (RX7, TX7, 13)) hK.1 hP (by omega) (by omega) rfl hT.obj)) rfl rfl hl.1 rfl (lv_room (Nat.le_of_ble_eq_true rfl)) dX7_turn_20 ⟨Nat.le_of_ble_eq_true rfl, Nat.le_of_ble_eq_true rfl⟩) hS (fun H locs hP hS => ?_)
  refine x_gen hP (fun v1 e1 hP => ?_)
  have hT : TW cy v1 A lo n t b (d + 2) wo wr nd (G) T P := by rw [e1]; exact hT.dr
  have hF : Fr A w v1 := fun a ha => by rw [e1]; exact (xu_ne (fun q => ha (by rw [q]; exact hT.own t (by omega) (by omega)))).trans (hF a ha)
  rw [(dw_tn (L := L) (xs := xs) (d := d + 1) (N := 8) (by omega) (by omega)).1]
  rw [hk]
  refine lv_tableIn (tgt := 288) (off := 265) hx hb dX7_turn_23 (by decide) (by decide) (by decide) (by decide) ?_
  refine lv_aload_n hx hb dX7_turn_288 rfl (lv_at hl 2 rfl) ?_
  refine lv_iconst (v := 5) hx hb dX7_turn_289 (by decide) ?_
  refine x_calli (va_runV (As := [.int (nI 5)]) (rest := []) ⟨hx, hb, hml, hown, hts⟩ (c_X7_draw l D cy lo n v1 b L xs hbl hL t (d + 2) wo ((G) 0 4) (by omega) (by omega) hT.obj (by omega) 5 (by omega) (by omega)) (cwV 1 hts gX7_turn_X7_draw rfl rfl rfl (by decide +kernel) ⟨Nat.le_of_ble_eq_true rfl, Nat.le_of_ble_eq_true rfl⟩) (preVT hP hK (x_scr hX hbl hS) (x_recv (ci := 7) (q := (RX7, TX7, 13)) hK.1 hP (by omega) (by omega) rfl hT.obj)) rfl rfl hl.1 rfl (lv_room (Nat.le_of_ble_eq_true rfl)) dX7_turn_290 ⟨Nat.le_of_ble_eq_true rfl, Nat.le_of_ble_eq_true rfl⟩) hS (fun H locs hP hS => ?_)
  refine x_gen hP (fun v2 e2 hP => ?_)
  have hT : TW cy v2 A lo n t b (d + 3) wo wr nd (G) T P := by rw [e2]; exact hT.dr
  have hF : Fr A w v2 := fun a ha => by rw [e2]; exact (xu_ne (fun q => ha (by rw [q]; exact hT.own t (by omega) (by omega)))).trans (hF a ha)
  rw [(dw_tn (L := L) (xs := xs) (d := d + 2) (N := 5) (by omega) (by omega)).1]
  have h6 := (dw_tn (L := L) (xs := xs) (d := d + 2) (N := 5) (by omega) (by omega)).2
  generalize tn L xs (d + 2) 5 = y at h5 h6 ⊢
  refine lv_if_gt (tgt := 303) hx hb dX7_turn_293 (by decide) (fun _ => ?_) (fun h => absurd ((nI_ltI (a := 0) (b := y) (by omega) (by omega)).mpr h5) h)
  refine lv_iconst (v := 1) hx hb dX7_turn_303 (by decide) ?_
  exact W.zret (v := 1) hx hb hr rfl (fun tE ht hW => ⟨⟨_, _, rfl, ⟨rfl, hT, hF⟩, x_at ht hP⟩, hS.F ht⟩) hS.2.2 dX7_turn_304
set_option maxRecDepth 100000 in
set_option maxHeartbeats 4000000 in
/-- Told.turn: a plug, of a well that is plugged -/
theorem c_X7_turn_6p (l : Launch) (D : va_G) (cy : Nat → ClassId) (lo n : Nat) (w : Nat → va_E) (b L : Nat) (xs : Nat → Int32) (hbl : b < lo) (hL : L ≤ 260) (A : Nat → Prop) (t d wo : Nat) (wr : Nat → Nat) (nd : Nat) (G T P : Mem) (hT : TW cy w A lo n t b d wo wr nd G T P) (hG : GI nd G) (hnd : 0 < nd) (hd : d < 900000) (i : Nat) (hii : i = tn L xs d nd) (hk : tn L xs (d + 1) 8 = 6) (h5 : tn L xs (d + 2) 5 = 0) (hp : P (103 + 2 * i) 0 = 1) : Met l yX7_turn wsX7_turn ({ frames := 4, cells := 0, slots := 0, locals := 100 }) (PcT D cy lo n w b L xs [.ref t]) (QxT D lo n (fun r u => r = 1 ∧ TW cy u A lo n t b (d + 3) wo wr nd (G) T (P) ∧ Fr A w u)) 0 0 (fun q : Nat => lo ≤ q) := by
  refine Met.ofW (cc := cX7_turn) (maxL := 9) (ret := (some .boolean)) (by decide) rfl ?_
  intro p e s m args below meth c s₁ B hml hv
  obtain ⟨rfl, hP, hK, hS, hX⟩ := x_entryT hv
  have hx := B.exec
  have hb := B.bytes
  have hr := B.returns
  have hts := atoms_spec (ws := wsX7_turn) B.pre
  have hown : s.vm.findClass RX7 = some m.cls := findClass_of_methodNamed B.named
  have iX7 : ∀ w ∈ u_ws RX7 TX7 13, w ∈ wsX7_turn := by decide +kernel
  have htb := hT.tb
  have hnd6 := hG.1
  have hwo := hT.inn wo hT.woA.1
  have hi : i < nd := by rw [hii]; exact (dw_tn hnd (by omega)).2
  have hwr := hT.inn (wr i) (hT.wrA i hi).1
  have hwr2 := (hT.wrA i hi).2
  have hF : Fr A w w := Fr.rf
  have hl := lv_entry ([.ref t]) (n := 9) (Nat.le_of_ble_eq_true rfl)
  rw [lg_entry_eq]
  generalize (lg_sl ([.ref t]) ++ List.replicate (9 - (lg_sl ([.ref t])).length) Slot.unset).toArray = ls at hl ⊢
  have hl : lv_has ls 9 [(0, .ref t)] := hl
  refine lv_aload_n hx hb dX7_turn_0 rfl (lv_at hl 0 rfl) ?_
  refine lv_aload_n hx hb dX7_turn_1 rfl (lv_at hl 0 rfl) ?_
  refine x_get (ref := RX7) (C := RX7) (T := TX7) (N := 13) (ci := 7) (v := .ref wo) hx hb hts iX7 hown hK.1 hP (by omega) (by omega) hT.obj rfl 6 (by decide) (hts (.fieldLink RX7 31 "PoreFieldLaw$Told" "wells" "[[I") (by decide +kernel)) (fun _ h9 => h9) rfl dX7_turn_2 ?_
  obtain ⟨fw, hfw, hfi⟩ := hT.wells
  refine x_alenA hx hb hK.1 hP (by omega) (by omega) 6 hfw rfl dX7_turn_5 ?_
  refine x_calli (va_runV (As := [.int (nI nd)]) (rest := []) ⟨hx, hb, hml, hown, hts⟩ (c_X7_draw l D cy lo n w b L xs hbl hL t (d) wo ((G) 0 4) (by omega) (by omega) hT.obj (by omega) nd hnd (by omega)) (cwV 1 hts gX7_turn_X7_draw rfl rfl rfl (by decide +kernel) ⟨Nat.le_of_ble_eq_true rfl, Nat.le_of_ble_eq_true rfl⟩) (preVT hP hK (x_scr hX hbl hS) (x_recv (ci := 7) (q := (RX7, TX7, 13)) hK.1 hP (by omega) (by omega) rfl hT.obj)) rfl rfl hl.1 rfl (lv_room (Nat.le_of_ble_eq_true rfl)) dX7_turn_6 ⟨Nat.le_of_ble_eq_true rfl, Nat.le_of_ble_eq_true rfl⟩) hS (fun H locs hP hS => ?_)
  refine x_gen hP (fun v0 e0 hP => ?_)
  have hT : TW cy v0 A lo n t b (d + 1) wo wr nd (G) T P := by rw [e0]; exact hT.dr
  have hF : Fr A w v0 := fun a ha => by rw [e0]; exact (xu_ne (fun q => ha (by rw [q]; exact hT.own t (by omega) (by omega)))).trans (hF a ha)
  rw [(dw_tn (L := L) (xs := xs) (d := d) (N := nd) hnd (by omega)).1]
  rw [← hii]
  refine lv_istore_n (lv' := [(1, .int (nI i)), (0, .ref t)]) hx hb dX7_turn_9 rfl hl (by decide) rfl (fun ls hl => ?_)
  refine lv_aload_n hx hb dX7_turn_10 rfl (lv_at hl 1 rfl) ?_
  refine x_get (ref := RX7) (C := RX7) (T := TX7) (N := 13) (ci := 7) (v := .ref wo) hx hb hts iX7 hown hK.1 hP (by omega) (by omega) hT.obj rfl 6 (by decide) (hts (.fieldLink RX7 31 "PoreFieldLaw$Told" "wells" "[[I") (by decide +kernel)) (fun _ h9 => h9) rfl dX7_turn_11 ?_
  obtain ⟨fw, hfw, hfi⟩ := hT.wells
  refine lv_iload_n hx hb dX7_turn_14 rfl (lv_at hl 0 rfl) ?_
  refine x_aaldA hx hb hK.1 hP (by omega) (by omega) 6 hfw rfl (cl_of_nI (i := i) rfl (by omega)) (hfi i hi) (vp_in_of_nI (i := i) rfl (by omega) (by omega)) dX7_turn_15 ?_
  refine lv_astore_n (lv' := [(2, .ref (wr i)), (1, .int (nI i)), (0, .ref t)]) hx hb dX7_turn_16 rfl hl (by decide) rfl (fun ls hl => ?_)
  refine lv_aload_n hx hb dX7_turn_17 rfl (lv_at hl 2 rfl) ?_
  refine lv_bipush (v := 8) hx hb dX7_turn_18 (by decide) ?_
  refine x_calli (va_runV (As := [.int (nI 8)]) (rest := []) ⟨hx, hb, hml, hown, hts⟩ (c_X7_draw l D cy lo n v0 b L xs hbl hL t (d + 1) wo ((G) 0 4) (by omega) (by omega) hT.obj (by omega) 8 (by omega) (by omega)) (cwV 1 hts gX7_turn_X7_draw rfl rfl rfl (by decide +kernel) ⟨Nat.le_of_ble_eq_true rfl, Nat.le_of_ble_eq_true rfl⟩) (preVT hP hK (x_scr hX hbl hS) (x_recv (ci := 7) (q := (RX7, TX7, 13)) hK.1 hP (by omega) (by omega) rfl hT.obj)) rfl rfl hl.1 rfl (lv_room (Nat.le_of_ble_eq_true rfl)) dX7_turn_20 ⟨Nat.le_of_ble_eq_true rfl, Nat.le_of_ble_eq_true rfl⟩) hS (fun H locs hP hS => ?_)
  refine x_gen hP (fun v1 e1 hP => ?_)
  have hT : TW cy v1 A lo n t b (d + 2) wo wr nd (G) T P := by rw [e1]; exact hT.dr
  have hF : Fr A w v1 := fun a ha => by rw [e1]; exact (xu_ne (fun q => ha (by rw [q]; exact hT.own t (by omega) (by omega)))).trans (hF a ha)
  rw [(dw_tn (L := L) (xs := xs) (d := d + 1) (N := 8) (by omega) (by omega)).1]
  rw [hk]
  refine lv_tableIn (tgt := 288) (off := 265) hx hb dX7_turn_23 (by decide) (by decide) (by decide) (by decide) ?_
  refine lv_aload_n hx hb dX7_turn_288 rfl (lv_at hl 2 rfl) ?_
  refine lv_iconst (v := 5) hx hb dX7_turn_289 (by decide) ?_
  refine x_calli (va_runV (As := [.int (nI 5)]) (rest := []) ⟨hx, hb, hml, hown, hts⟩ (c_X7_draw l D cy lo n v1 b L xs hbl hL t (d + 2) wo ((G) 0 4) (by omega) (by omega) hT.obj (by omega) 5 (by omega) (by omega)) (cwV 1 hts gX7_turn_X7_draw rfl rfl rfl (by decide +kernel) ⟨Nat.le_of_ble_eq_true rfl, Nat.le_of_ble_eq_true rfl⟩) (preVT hP hK (x_scr hX hbl hS) (x_recv (ci := 7) (q := (RX7, TX7, 13)) hK.1 hP (by omega) (by omega) rfl hT.obj)) rfl rfl hl.1 rfl (lv_room (Nat.le_of_ble_eq_true rfl)) dX7_turn_290 ⟨Nat.le_of_ble_eq_true rfl, Nat.le_of_ble_eq_true rfl⟩) hS (fun H locs hP hS => ?_)
  refine x_gen hP (fun v2 e2 hP => ?_)
  have hT : TW cy v2 A lo n t b (d + 3) wo wr nd (G) T P := by rw [e2]; exact hT.dr
  have hF : Fr A w v2 := fun a ha => by rw [e2]; exact (xu_ne (fun q => ha (by rw [q]; exact hT.own t (by omega) (by omega)))).trans (hF a ha)
  rw [(dw_tn (L := L) (xs := xs) (d := d + 2) (N := 5) (by omega) (by omega)).1]
  rw [h5]
  refine lv_if_gt (tgt := 303) hx hb dX7_turn_293 (by decide) (fun h => absurd h (by decide)) (fun _ => ?_)
  obtain ⟨r, hr0, q0, q2, q3, q4, q13⟩ := hT.row i hi
  refine lv_aload_n hx hb dX7_turn_296 rfl (lv_at hl 0 rfl) ?_
  refine lv_iconst (v := 4) hx hb dX7_turn_297 (by decide) ?_
  refine x_iald hx hb hK.1 hP (by omega) (by omega) 0 hr0 rfl (cl_of_nI (i := 4) rfl (by omega)) (vp_in_of_nI (i := 4) rfl (by omega) (by omega)) dX7_turn_298 ?_
  refine lv_iconst (v := 1) hx hb dX7_turn_299 (by decide) ?_
  refine lv_icmp_ne (tgt := 305) hx hb dX7_turn_300 (by decide) (fun h => absurd (q4.trans hp) h) (fun _ => ?_)
  refine lv_iconst (v := 1) hx hb dX7_turn_303 (by decide) ?_
  exact W.zret (v := 1) hx hb hr rfl (fun tE ht hW => ⟨⟨_, _, rfl, ⟨rfl, hT, hF⟩, x_at ht hP⟩, hS.F ht⟩) hS.2.2 dX7_turn_304
set_option maxRecDepth 100000 in
set_option maxHeartbeats 4000000 in
/-- Told.turn: a plug -/
theorem c_X7_turn_6o (l : Launch) (D : va_G) (cy : Nat → ClassId) (lo n : Nat) (w : Nat → va_E) (b L : Nat) (xs : Nat → Int32) (hbl : b < lo) (hL : L ≤ 260) (A : Nat → Prop) (t d wo : Nat) (wr : Nat → Nat) (nd : Nat) (G T P : Mem) (hT : TW cy w A lo n t b d wo wr nd G T P) (hG : GI nd G) (hnd : 0 < nd) (hd : d < 900000) (i : Nat) (hii : i = tn L xs d nd) (hk : tn L xs (d + 1) 8 = 6) (h5 : tn L xs (d + 2) 5 = 0) (hp : P (103 + 2 * i) 0 = 0) : Met l yX7_turn wsX7_turn ({ frames := 4, cells := 0, slots := 0, locals := 100 }) (PcT D cy lo n w b L xs [.ref t]) (QxT D lo n (fun r u => r = 1 ∧ TW cy u A lo n t b (d + 3) wo wr nd (u2 G (37 + 2 * i) 2 0) T (u2 P (103 + 2 * i) 0 1) ∧ Fr A w u)) 0 0 (fun q : Nat => lo ≤ q) := by
  refine Met.ofW (cc := cX7_turn) (maxL := 9) (ret := (some .boolean)) (by decide) rfl ?_
  intro p e s m args below meth c s₁ B hml hv
  obtain ⟨rfl, hP, hK, hS, hX⟩ := x_entryT hv
  have hx := B.exec
  have hb := B.bytes
  have hr := B.returns
  have hts := atoms_spec (ws := wsX7_turn) B.pre
  have hown : s.vm.findClass RX7 = some m.cls := findClass_of_methodNamed B.named
  have iX7 : ∀ w ∈ u_ws RX7 TX7 13, w ∈ wsX7_turn := by decide +kernel
  have htb := hT.tb
  have hnd6 := hG.1
  have hwo := hT.inn wo hT.woA.1
  have hi : i < nd := by rw [hii]; exact (dw_tn hnd (by omega)).2
  have hwr := hT.inn (wr i) (hT.wrA i hi).1
  have hwr2 := (hT.wrA i hi).2
  have hF : Fr A w w := Fr.rf
  have hl := lv_entry ([.ref t]) (n := 9) (Nat.le_of_ble_eq_true rfl)
  rw [lg_entry_eq]
  generalize (lg_sl ([.ref t]) ++ List.replicate (9 - (lg_sl ([.ref t])).length) Slot.unset).toArray = ls at hl ⊢
  have hl : lv_has ls 9 [(0, .ref t)] := hl
  refine lv_aload_n hx hb dX7_turn_0 rfl (lv_at hl 0 rfl) ?_
  refine lv_aload_n hx hb dX7_turn_1 rfl (lv_at hl 0 rfl) ?_
  refine x_get (ref := RX7) (C := RX7) (T := TX7) (N := 13) (ci := 7) (v := .ref wo) hx hb hts iX7 hown hK.1 hP (by omega) (by omega) hT.obj rfl 6 (by decide) (hts (.fieldLink RX7 31 "PoreFieldLaw$Told" "wells" "[[I") (by decide +kernel)) (fun _ h9 => h9) rfl dX7_turn_2 ?_
  obtain ⟨fw, hfw, hfi⟩ := hT.wells
  refine x_alenA hx hb hK.1 hP (by omega) (by omega) 6 hfw rfl dX7_turn_5 ?_
  refine x_calli (va_runV (As := [.int (nI nd)]) (rest := []) ⟨hx, hb, hml, hown, hts⟩ (c_X7_draw l D cy lo n w b L xs hbl hL t (d) wo ((G) 0 4) (by omega) (by omega) hT.obj (by omega) nd hnd (by omega)) (cwV 1 hts gX7_turn_X7_draw rfl rfl rfl (by decide +kernel) ⟨Nat.le_of_ble_eq_true rfl, Nat.le_of_ble_eq_true rfl⟩) (preVT hP hK (x_scr hX hbl hS) (x_recv (ci := 7) (q := (RX7, TX7, 13)) hK.1 hP (by omega) (by omega) rfl hT.obj)) rfl rfl hl.1 rfl (lv_room (Nat.le_of_ble_eq_true rfl)) dX7_turn_6 ⟨Nat.le_of_ble_eq_true rfl, Nat.le_of_ble_eq_true rfl⟩) hS (fun H locs hP hS => ?_)
  refine x_gen hP (fun v0 e0 hP => ?_)
  have hT : TW cy v0 A lo n t b (d + 1) wo wr nd (G) T P := by rw [e0]; exact hT.dr
  have hF : Fr A w v0 := fun a ha => by rw [e0]; exact (xu_ne (fun q => ha (by rw [q]; exact hT.own t (by omega) (by omega)))).trans (hF a ha)
  rw [(dw_tn (L := L) (xs := xs) (d := d) (N := nd) hnd (by omega)).1]
  rw [← hii]
  refine lv_istore_n (lv' := [(1, .int (nI i)), (0, .ref t)]) hx hb dX7_turn_9 rfl hl (by decide) rfl (fun ls hl => ?_)
  refine lv_aload_n hx hb dX7_turn_10 rfl (lv_at hl 1 rfl) ?_
  refine x_get (ref := RX7) (C := RX7) (T := TX7) (N := 13) (ci := 7) (v := .ref wo) hx hb hts iX7 hown hK.1 hP (by omega) (by omega) hT.obj rfl 6 (by decide) (hts (.fieldLink RX7 31 "PoreFieldLaw$Told" "wells" "[[I") (by decide +kernel)) (fun _ h9 => h9) rfl dX7_turn_11 ?_
  obtain ⟨fw, hfw, hfi⟩ := hT.wells
  refine lv_iload_n hx hb dX7_turn_14 rfl (lv_at hl 0 rfl) ?_
  refine x_aaldA hx hb hK.1 hP (by omega) (by omega) 6 hfw rfl (cl_of_nI (i := i) rfl (by omega)) (hfi i hi) (vp_in_of_nI (i := i) rfl (by omega) (by omega)) dX7_turn_15 ?_
  refine lv_astore_n (lv' := [(2, .ref (wr i)), (1, .int (nI i)), (0, .ref t)]) hx hb dX7_turn_16 rfl hl (by decide) rfl (fun ls hl => ?_)
  refine lv_aload_n hx hb dX7_turn_17 rfl (lv_at hl 2 rfl) ?_
  refine lv_bipush (v := 8) hx hb dX7_turn_18 (by decide) ?_
  refine x_calli (va_runV (As := [.int (nI 8)]) (rest := []) ⟨hx, hb, hml, hown, hts⟩ (c_X7_draw l D cy lo n v0 b L xs hbl hL t (d + 1) wo ((G) 0 4) (by omega) (by omega) hT.obj (by omega) 8 (by omega) (by omega)) (cwV 1 hts gX7_turn_X7_draw rfl rfl rfl (by decide +kernel) ⟨Nat.le_of_ble_eq_true rfl, Nat.le_of_ble_eq_true rfl⟩) (preVT hP hK (x_scr hX hbl hS) (x_recv (ci := 7) (q := (RX7, TX7, 13)) hK.1 hP (by omega) (by omega) rfl hT.obj)) rfl rfl hl.1 rfl (lv_room (Nat.le_of_ble_eq_true rfl)) dX7_turn_20 ⟨Nat.le_of_ble_eq_true rfl, Nat.le_of_ble_eq_true rfl⟩) hS (fun H locs hP hS => ?_)
  refine x_gen hP (fun v1 e1 hP => ?_)
  have hT : TW cy v1 A lo n t b (d + 2) wo wr nd (G) T P := by rw [e1]; exact hT.dr
  have hF : Fr A w v1 := fun a ha => by rw [e1]; exact (xu_ne (fun q => ha (by rw [q]; exact hT.own t (by omega) (by omega)))).trans (hF a ha)
  rw [(dw_tn (L := L) (xs := xs) (d := d + 1) (N := 8) (by omega) (by omega)).1]
  rw [hk]
  refine lv_tableIn (tgt := 288) (off := 265) hx hb dX7_turn_23 (by decide) (by decide) (by decide) (by decide) ?_
  refine lv_aload_n hx hb dX7_turn_288 rfl (lv_at hl 2 rfl) ?_
  refine lv_iconst (v := 5) hx hb dX7_turn_289 (by decide) ?_
  refine x_calli (va_runV (As := [.int (nI 5)]) (rest := []) ⟨hx, hb, hml, hown, hts⟩ (c_X7_draw l D cy lo n v1 b L xs hbl hL t (d + 2) wo ((G) 0 4) (by omega) (by omega) hT.obj (by omega) 5 (by omega) (by omega)) (cwV 1 hts gX7_turn_X7_draw rfl rfl rfl (by decide +kernel) ⟨Nat.le_of_ble_eq_true rfl, Nat.le_of_ble_eq_true rfl⟩) (preVT hP hK (x_scr hX hbl hS) (x_recv (ci := 7) (q := (RX7, TX7, 13)) hK.1 hP (by omega) (by omega) rfl hT.obj)) rfl rfl hl.1 rfl (lv_room (Nat.le_of_ble_eq_true rfl)) dX7_turn_290 ⟨Nat.le_of_ble_eq_true rfl, Nat.le_of_ble_eq_true rfl⟩) hS (fun H locs hP hS => ?_)
  refine x_gen hP (fun v2 e2 hP => ?_)
  have hT : TW cy v2 A lo n t b (d + 3) wo wr nd (G) T P := by rw [e2]; exact hT.dr
  have hF : Fr A w v2 := fun a ha => by rw [e2]; exact (xu_ne (fun q => ha (by rw [q]; exact hT.own t (by omega) (by omega)))).trans (hF a ha)
  rw [(dw_tn (L := L) (xs := xs) (d := d + 2) (N := 5) (by omega) (by omega)).1]
  rw [h5]
  refine lv_if_gt (tgt := 303) hx hb dX7_turn_293 (by decide) (fun h => absurd h (by decide)) (fun _ => ?_)
  obtain ⟨r, hr0, q0, q2, q3, q4, q13⟩ := hT.row i hi
  refine lv_aload_n hx hb dX7_turn_296 rfl (lv_at hl 0 rfl) ?_
  refine lv_iconst (v := 4) hx hb dX7_turn_297 (by decide) ?_
  refine x_iald hx hb hK.1 hP (by omega) (by omega) 0 hr0 rfl (cl_of_nI (i := 4) rfl (by omega)) (vp_in_of_nI (i := 4) rfl (by omega) (by omega)) dX7_turn_298 ?_
  refine lv_iconst (v := 1) hx hb dX7_turn_299 (by decide) ?_
  refine lv_icmp_ne (tgt := 305) hx hb dX7_turn_300 (by decide) (fun _ => ?_) (fun h => absurd h (show ¬ r 4 = 1 by rw [q4, hp]; decide))
  refine lv_aload_n hx hb dX7_turn_305 rfl (lv_at hl 0 rfl) ?_
  refine lv_iconst (v := 2) hx hb dX7_turn_306 (by decide) ?_
  refine x_iald hx hb hK.1 hP (by omega) (by omega) 0 hr0 rfl (cl_of_nI (i := 2) rfl (by omega)) (vp_in_of_nI (i := 2) rfl (by omega) (by omega)) dX7_turn_307 ?_
  rw [q2]
  refine lv_istore (lv' := [(7, .int (G (37 + 2 * i) 2)), (2, .ref (wr i)), (1, .int (nI i)), (0, .ref t)]) hx hb dX7_turn_308 hl (by decide) rfl (fun ls hl => ?_)
  refine lv_aload_n hx hb dX7_turn_310 rfl (lv_at hl 1 rfl) ?_
  refine lv_iconst (v := 2) hx hb dX7_turn_311 (by decide) ?_
  refine lv_iconst (v := 0) hx hb dX7_turn_312 (by decide) ?_
  refine x_iast hx hb hK.1 hP hS (by omega) (by omega) 0 hr0 rfl (cl_of_nI (i := 2) rfl (by omega)) (vp_in_of_nI (i := 2) rfl (by omega) (by omega)) dX7_turn_313 (fun H locs hP hS => ?_)
  refine lv_aload_n hx hb dX7_turn_314 rfl (lv_at hl 1 rfl) ?_
  refine lv_iconst (v := 4) hx hb dX7_turn_315 (by decide) ?_
  refine lv_iconst (v := 1) hx hb dX7_turn_316 (by decide) ?_
  refine x_iast hx hb hK.1 hP hS (by omega) (by omega) 0 (xu_same _ _ _) rfl (cl_of_nI (i := 4) rfl (by omega)) (vp_in_of_nI (i := 4) rfl (by omega) (by omega)) dX7_turn_317 (fun H locs hP hS => ?_)
  rw [xu_xu] at hP
  refine lv_aload_n hx hb dX7_turn_318 rfl (lv_at hl 3 rfl) ?_
  refine x_get (ref := RX7) (C := RX7) (T := TX7) (N := 13) (ci := 7) (v := .ref (t + 1)) hx hb hts iX7 hown hK.1 hP (by omega) (by omega) ((xu_ne (by omega)).trans hT.obj) rfl 0 (by decide) (hts (.fieldLink RX7 10 "PoreFieldLaw$Told" "m" "LPoreField;") (by decide +kernel)) (fun _ h9 => h9) rfl dX7_turn_319 ?_
  refine lv_iload_n hx hb dX7_turn_322 rfl (lv_at hl 2 rfl) ?_
  have hpf : pw cy (va_up v2 (wr i) (.inl (cy 0, 14, .inl (upd (upd r 2 0) 4 1)))) (t + 1) G T P = va_up v2 (wr i) (.inl (cy 0, 14, .inl (upd (upd r 2 0) 4 1))) := pw_ext hT.pf (fun a h1 h2 => xu_ne (by omega))
  have hP := TW.to hpf hP
  refine x_calli (va_runV (As := [.int (nI i)]) (rest := []) ⟨hx, hb, hml, hown, hts⟩ (c_X6_plug l D cy lo n (va_up v2 (wr i) (.inl (cy 0, 14, .inl (upd (upd r 2 0) 4 1)))) (t + 1) G T P (by omega) (by omega) nd hG i hi hp) (cwV 1 hts gX7_turn_X6_plug rfl rfl rfl (by decide +kernel) ⟨Nat.le_of_ble_eq_true rfl, Nat.le_of_ble_eq_true rfl⟩) (preV hP hK (x_recv (ci := 6) (q := (RX6, TX6, 11)) hK.1 hP (by omega) (by omega) rfl ((gw_out (by omega)).trans ((gw_out (by omega)).trans hw_0)))) rfl rfl hl.1 rfl (lv_room (Nat.le_of_ble_eq_true rfl)) dX7_turn_323 ⟨Nat.le_of_ble_eq_true rfl, Nat.le_of_ble_eq_true rfl⟩) hS (fun H locs hP hS => ?_)
  refine lv_iload hx hb dX7_turn_326 (lv_at hl 0 rfl) ?_
  refine lv_icmp_ne (tgt := 335) hx hb dX7_turn_328 (by decide) (fun h1 => absurd rfl h1) (fun h1 => ?_)
  refine lv_iconst (v := 1) hx hb dX7_turn_331 (by decide) ?_
  refine lv_goto (tgt := 336) hx hb dX7_turn_332 (by decide) ?_
  have hR : (upd (upd r 2 0) 4 1) 0 = u2 G (37 + 2 * i) 2 0 (37 + 2 * i) 0 ∧ (upd (upd r 2 0) 4 1) 2 = u2 G (37 + 2 * i) 2 0 (37 + 2 * i) 2 ∧ (upd (upd r 2 0) 4 1) 3 = u2 G (37 + 2 * i) 2 0 (37 + 2 * i) 3 ∧ (upd (upd r 2 0) 4 1) 4 = u2 P (103 + 2 * i) 0 1 (103 + 2 * i) 0 ∧ (upd (upd r 2 0) 4 1) 13 = u2 P (103 + 2 * i) 0 1 (103 + 2 * i) 1 := by
    rw [u2_ne (by omega), u2_same, u2_ne (by omega), u2_same, u2_ne (by omega)]
    exact ⟨q0, rfl, q3, rfl, q13⟩
  exact W.zret (v := 1) hx hb hr rfl (fun tE ht hW => ⟨⟨_, _, rfl, ⟨rfl, hT.frow hi hR (u2_ne (by omega)) (fun k hk => ⟨u2_ne (by omega), u2_ne (by omega)⟩) (fun k hk hne => ⟨u2_ne (by omega), u2_ne (by omega), u2_ne (by omega), u2_ne (by omega), u2_ne (by omega)⟩) (fun j hj => u2_ne (by omega)), hF.tr (hT.fr_row hi)⟩, x_at ht hP⟩, hS.F ht⟩) hS.2.2 dX7_turn_336
set_option maxRecDepth 100000 in
set_option maxHeartbeats 4000000 in
/-- Told.turn: a test, of an injector -/
theorem c_X7_turn_7k (l : Launch) (D : va_G) (cy : Nat → ClassId) (lo n : Nat) (w : Nat → va_E) (b L : Nat) (xs : Nat → Int32) (hbl : b < lo) (hL : L ≤ 260) (A : Nat → Prop) (t d wo : Nat) (wr : Nat → Nat) (nd : Nat) (G T P : Mem) (hT : TW cy w A lo n t b d wo wr nd G T P) (hG : GI nd G) (hnd : 0 < nd) (hd : d < 900000) (i : Nat) (hii : i = tn L xs d nd) (hk : tn L xs (d + 1) 8 = 7) (hkd : ¬ G (37 + 2 * i) 0 = 0) : Met l yX7_turn wsX7_turn ({ frames := 4, cells := 0, slots := 0, locals := 100 }) (PcT D cy lo n w b L xs [.ref t]) (QxT D lo n (fun r u => r = 1 ∧ TW cy u A lo n t b (d + 2) wo wr nd (G) T (P) ∧ Fr A w u)) 0 0 (fun q : Nat => lo ≤ q) := by
  refine Met.ofW (cc := cX7_turn) (maxL := 9) (ret := (some .boolean)) (by decide) rfl ?_
  intro p e s m args below meth c s₁ B hml hv
  obtain ⟨rfl, hP, hK, hS, hX⟩ := x_entryT hv
  have hx := B.exec
  have hb := B.bytes
  have hr := B.returns
  have hts := atoms_spec (ws := wsX7_turn) B.pre
  have hown : s.vm.findClass RX7 = some m.cls := findClass_of_methodNamed B.named
  have iX7 : ∀ w ∈ u_ws RX7 TX7 13, w ∈ wsX7_turn := by decide +kernel
  have htb := hT.tb
  have hnd6 := hG.1
  have hwo := hT.inn wo hT.woA.1
  have hi : i < nd := by rw [hii]; exact (dw_tn hnd (by omega)).2
  have hwr := hT.inn (wr i) (hT.wrA i hi).1
  have hwr2 := (hT.wrA i hi).2
  have hF : Fr A w w := Fr.rf
  have hl := lv_entry ([.ref t]) (n := 9) (Nat.le_of_ble_eq_true rfl)
  rw [lg_entry_eq]
  generalize (lg_sl ([.ref t]) ++ List.replicate (9 - (lg_sl ([.ref t])).length) Slot.unset).toArray = ls at hl ⊢
  have hl : lv_has ls 9 [(0, .ref t)] := hl
  refine lv_aload_n hx hb dX7_turn_0 rfl (lv_at hl 0 rfl) ?_
  refine lv_aload_n hx hb dX7_turn_1 rfl (lv_at hl 0 rfl) ?_
  refine x_get (ref := RX7) (C := RX7) (T := TX7) (N := 13) (ci := 7) (v := .ref wo) hx hb hts iX7 hown hK.1 hP (by omega) (by omega) hT.obj rfl 6 (by decide) (hts (.fieldLink RX7 31 "PoreFieldLaw$Told" "wells" "[[I") (by decide +kernel)) (fun _ h9 => h9) rfl dX7_turn_2 ?_
  obtain ⟨fw, hfw, hfi⟩ := hT.wells
  refine x_alenA hx hb hK.1 hP (by omega) (by omega) 6 hfw rfl dX7_turn_5 ?_
  refine x_calli (va_runV (As := [.int (nI nd)]) (rest := []) ⟨hx, hb, hml, hown, hts⟩ (c_X7_draw l D cy lo n w b L xs hbl hL t (d) wo ((G) 0 4) (by omega) (by omega) hT.obj (by omega) nd hnd (by omega)) (cwV 1 hts gX7_turn_X7_draw rfl rfl rfl (by decide +kernel) ⟨Nat.le_of_ble_eq_true rfl, Nat.le_of_ble_eq_true rfl⟩) (preVT hP hK (x_scr hX hbl hS) (x_recv (ci := 7) (q := (RX7, TX7, 13)) hK.1 hP (by omega) (by omega) rfl hT.obj)) rfl rfl hl.1 rfl (lv_room (Nat.le_of_ble_eq_true rfl)) dX7_turn_6 ⟨Nat.le_of_ble_eq_true rfl, Nat.le_of_ble_eq_true rfl⟩) hS (fun H locs hP hS => ?_)
  refine x_gen hP (fun v0 e0 hP => ?_)
  have hT : TW cy v0 A lo n t b (d + 1) wo wr nd (G) T P := by rw [e0]; exact hT.dr
  have hF : Fr A w v0 := fun a ha => by rw [e0]; exact (xu_ne (fun q => ha (by rw [q]; exact hT.own t (by omega) (by omega)))).trans (hF a ha)
  rw [(dw_tn (L := L) (xs := xs) (d := d) (N := nd) hnd (by omega)).1]
  rw [← hii]
  refine lv_istore_n (lv' := [(1, .int (nI i)), (0, .ref t)]) hx hb dX7_turn_9 rfl hl (by decide) rfl (fun ls hl => ?_)
  refine lv_aload_n hx hb dX7_turn_10 rfl (lv_at hl 1 rfl) ?_
  refine x_get (ref := RX7) (C := RX7) (T := TX7) (N := 13) (ci := 7) (v := .ref wo) hx hb hts iX7 hown hK.1 hP (by omega) (by omega) hT.obj rfl 6 (by decide) (hts (.fieldLink RX7 31 "PoreFieldLaw$Told" "wells" "[[I") (by decide +kernel)) (fun _ h9 => h9) rfl dX7_turn_11 ?_
  obtain ⟨fw, hfw, hfi⟩ := hT.wells
  refine lv_iload_n hx hb dX7_turn_14 rfl (lv_at hl 0 rfl) ?_
  refine x_aaldA hx hb hK.1 hP (by omega) (by omega) 6 hfw rfl (cl_of_nI (i := i) rfl (by omega)) (hfi i hi) (vp_in_of_nI (i := i) rfl (by omega) (by omega)) dX7_turn_15 ?_
  refine lv_astore_n (lv' := [(2, .ref (wr i)), (1, .int (nI i)), (0, .ref t)]) hx hb dX7_turn_16 rfl hl (by decide) rfl (fun ls hl => ?_)
  refine lv_aload_n hx hb dX7_turn_17 rfl (lv_at hl 2 rfl) ?_
  refine lv_bipush (v := 8) hx hb dX7_turn_18 (by decide) ?_
  refine x_calli (va_runV (As := [.int (nI 8)]) (rest := []) ⟨hx, hb, hml, hown, hts⟩ (c_X7_draw l D cy lo n v0 b L xs hbl hL t (d + 1) wo ((G) 0 4) (by omega) (by omega) hT.obj (by omega) 8 (by omega) (by omega)) (cwV 1 hts gX7_turn_X7_draw rfl rfl rfl (by decide +kernel) ⟨Nat.le_of_ble_eq_true rfl, Nat.le_of_ble_eq_true rfl⟩) (preVT hP hK (x_scr hX hbl hS) (x_recv (ci := 7) (q := (RX7, TX7, 13)) hK.1 hP (by omega) (by omega) rfl hT.obj)) rfl rfl hl.1 rfl (lv_room (Nat.le_of_ble_eq_true rfl)) dX7_turn_20 ⟨Nat.le_of_ble_eq_true rfl, Nat.le_of_ble_eq_true rfl⟩) hS (fun H locs hP hS => ?_)
  refine x_gen hP (fun v1 e1 hP => ?_)
  have hT : TW cy v1 A lo n t b (d + 2) wo wr nd (G) T P := by rw [e1]; exact hT.dr
  have hF : Fr A w v1 := fun a ha => by rw [e1]; exact (xu_ne (fun q => ha (by rw [q]; exact hT.own t (by omega) (by omega)))).trans (hF a ha)
  rw [(dw_tn (L := L) (xs := xs) (d := d + 1) (N := 8) (by omega) (by omega)).1]
  rw [hk]
  refine lv_tableOut (tgt := 337) hx hb dX7_turn_23 (by decide) (by decide) ?_
  obtain ⟨r, hr0, q0, q2, q3, q4, q13⟩ := hT.row i hi
  refine lv_aload_n hx hb dX7_turn_337 rfl (lv_at hl 0 rfl) ?_
  refine lv_iconst (v := 0) hx hb dX7_turn_338 (by decide) ?_
  refine x_iald hx hb hK.1 hP (by omega) (by omega) 0 hr0 rfl (cl_of_nI (i := 0) rfl (by omega)) (vp_in_of_nI (i := 0) rfl (by omega) (by omega)) dX7_turn_339 ?_
  refine lv_if_ne (tgt := 350) hx hb dX7_turn_340 (by decide) (fun _ => ?_) (fun h => absurd h (show ¬ r 0 = 0 by rw [q0]; exact hkd))
  refine lv_iconst (v := 1) hx hb dX7_turn_350 (by decide) ?_
  exact W.zret (v := 1) hx hb hr rfl (fun tE ht hW => ⟨⟨_, _, rfl, ⟨rfl, hT, hF⟩, x_at ht hP⟩, hS.F ht⟩) hS.2.2 dX7_turn_351
set_option maxRecDepth 100000 in
set_option maxHeartbeats 4000000 in
/-- Told.turn: a test -/
theorem c_X7_turn_7p (l : Launch) (D : va_G) (cy : Nat → ClassId) (lo n : Nat) (w : Nat → va_E) (b L : Nat) (xs : Nat → Int32) (hbl : b < lo) (hL : L ≤ 260) (A : Nat → Prop) (t d wo : Nat) (wr : Nat → Nat) (nd : Nat) (G T P : Mem) (hT : TW cy w A lo n t b d wo wr nd G T P) (hG : GI nd G) (hnd : 0 < nd) (hd : d < 900000) (i : Nat) (hii : i = tn L xs d nd) (hk : tn L xs (d + 1) 8 = 7) (hkd : G (37 + 2 * i) 0 = 0) (hp : P (103 + 2 * i) 0 = 1) : Met l yX7_turn wsX7_turn ({ frames := 4, cells := 0, slots := 0, locals := 100 }) (PcT D cy lo n w b L xs [.ref t]) (QxT D lo n (fun r u => r = 1 ∧ TW cy u A lo n t b (d + 2) wo wr nd (G) T (P) ∧ Fr A w u)) 0 0 (fun q : Nat => lo ≤ q) := by
  refine Met.ofW (cc := cX7_turn) (maxL := 9) (ret := (some .boolean)) (by decide) rfl ?_
  intro p e s m args below meth c s₁ B hml hv
  obtain ⟨rfl, hP, hK, hS, hX⟩ := x_entryT hv
  have hx := B.exec
  have hb := B.bytes
  have hr := B.returns
  have hts := atoms_spec (ws := wsX7_turn) B.pre
  have hown : s.vm.findClass RX7 = some m.cls := findClass_of_methodNamed B.named
  have iX7 : ∀ w ∈ u_ws RX7 TX7 13, w ∈ wsX7_turn := by decide +kernel
  have htb := hT.tb
  have hnd6 := hG.1
  have hwo := hT.inn wo hT.woA.1
  have hi : i < nd := by rw [hii]; exact (dw_tn hnd (by omega)).2
  have hwr := hT.inn (wr i) (hT.wrA i hi).1
  have hwr2 := (hT.wrA i hi).2
  have hF : Fr A w w := Fr.rf
  have hl := lv_entry ([.ref t]) (n := 9) (Nat.le_of_ble_eq_true rfl)
  rw [lg_entry_eq]
  generalize (lg_sl ([.ref t]) ++ List.replicate (9 - (lg_sl ([.ref t])).length) Slot.unset).toArray = ls at hl ⊢
  have hl : lv_has ls 9 [(0, .ref t)] := hl
  refine lv_aload_n hx hb dX7_turn_0 rfl (lv_at hl 0 rfl) ?_
  refine lv_aload_n hx hb dX7_turn_1 rfl (lv_at hl 0 rfl) ?_
  refine x_get (ref := RX7) (C := RX7) (T := TX7) (N := 13) (ci := 7) (v := .ref wo) hx hb hts iX7 hown hK.1 hP (by omega) (by omega) hT.obj rfl 6 (by decide) (hts (.fieldLink RX7 31 "PoreFieldLaw$Told" "wells" "[[I") (by decide +kernel)) (fun _ h9 => h9) rfl dX7_turn_2 ?_
  obtain ⟨fw, hfw, hfi⟩ := hT.wells
  refine x_alenA hx hb hK.1 hP (by omega) (by omega) 6 hfw rfl dX7_turn_5 ?_
  refine x_calli (va_runV (As := [.int (nI nd)]) (rest := []) ⟨hx, hb, hml, hown, hts⟩ (c_X7_draw l D cy lo n w b L xs hbl hL t (d) wo ((G) 0 4) (by omega) (by omega) hT.obj (by omega) nd hnd (by omega)) (cwV 1 hts gX7_turn_X7_draw rfl rfl rfl (by decide +kernel) ⟨Nat.le_of_ble_eq_true rfl, Nat.le_of_ble_eq_true rfl⟩) (preVT hP hK (x_scr hX hbl hS) (x_recv (ci := 7) (q := (RX7, TX7, 13)) hK.1 hP (by omega) (by omega) rfl hT.obj)) rfl rfl hl.1 rfl (lv_room (Nat.le_of_ble_eq_true rfl)) dX7_turn_6 ⟨Nat.le_of_ble_eq_true rfl, Nat.le_of_ble_eq_true rfl⟩) hS (fun H locs hP hS => ?_)
  refine x_gen hP (fun v0 e0 hP => ?_)
  have hT : TW cy v0 A lo n t b (d + 1) wo wr nd (G) T P := by rw [e0]; exact hT.dr
  have hF : Fr A w v0 := fun a ha => by rw [e0]; exact (xu_ne (fun q => ha (by rw [q]; exact hT.own t (by omega) (by omega)))).trans (hF a ha)
  rw [(dw_tn (L := L) (xs := xs) (d := d) (N := nd) hnd (by omega)).1]
  rw [← hii]
  refine lv_istore_n (lv' := [(1, .int (nI i)), (0, .ref t)]) hx hb dX7_turn_9 rfl hl (by decide) rfl (fun ls hl => ?_)
  refine lv_aload_n hx hb dX7_turn_10 rfl (lv_at hl 1 rfl) ?_
  refine x_get (ref := RX7) (C := RX7) (T := TX7) (N := 13) (ci := 7) (v := .ref wo) hx hb hts iX7 hown hK.1 hP (by omega) (by omega) hT.obj rfl 6 (by decide) (hts (.fieldLink RX7 31 "PoreFieldLaw$Told" "wells" "[[I") (by decide +kernel)) (fun _ h9 => h9) rfl dX7_turn_11 ?_
  obtain ⟨fw, hfw, hfi⟩ := hT.wells
  refine lv_iload_n hx hb dX7_turn_14 rfl (lv_at hl 0 rfl) ?_
  refine x_aaldA hx hb hK.1 hP (by omega) (by omega) 6 hfw rfl (cl_of_nI (i := i) rfl (by omega)) (hfi i hi) (vp_in_of_nI (i := i) rfl (by omega) (by omega)) dX7_turn_15 ?_
  refine lv_astore_n (lv' := [(2, .ref (wr i)), (1, .int (nI i)), (0, .ref t)]) hx hb dX7_turn_16 rfl hl (by decide) rfl (fun ls hl => ?_)
  refine lv_aload_n hx hb dX7_turn_17 rfl (lv_at hl 2 rfl) ?_
  refine lv_bipush (v := 8) hx hb dX7_turn_18 (by decide) ?_
  refine x_calli (va_runV (As := [.int (nI 8)]) (rest := []) ⟨hx, hb, hml, hown, hts⟩ (c_X7_draw l D cy lo n v0 b L xs hbl hL t (d + 1) wo ((G) 0 4) (by omega) (by omega) hT.obj (by omega) 8 (by omega) (by omega)) (cwV 1 hts gX7_turn_X7_draw rfl rfl rfl (by decide +kernel) ⟨Nat.le_of_ble_eq_true rfl, Nat.le_of_ble_eq_true rfl⟩) (preVT hP hK (x_scr hX hbl hS) (x_recv (ci := 7) (q := (RX7, TX7, 13)) hK.1 hP (by omega) (by omega) rfl hT.obj)) rfl rfl hl.1 rfl (lv_room (Nat.le_of_ble_eq_true rfl)) dX7_turn_20 ⟨Nat.le_of_ble_eq_true rfl, Nat.le_of_ble_eq_true rfl⟩) hS (fun H locs hP hS => ?_)
  refine x_gen hP (fun v1 e1 hP => ?_)
  have hT : TW cy v1 A lo n t b (d + 2) wo wr nd (G) T P := by rw [e1]; exact hT.dr
  have hF : Fr A w v1 := fun a ha => by rw [e1]; exact (xu_ne (fun q => ha (by rw [q]; exact hT.own t (by omega) (by omega)))).trans (hF a ha)
  rw [(dw_tn (L := L) (xs := xs) (d := d + 1) (N := 8) (by omega) (by omega)).1]
  rw [hk]
  refine lv_tableOut (tgt := 337) hx hb dX7_turn_23 (by decide) (by decide) ?_
  obtain ⟨r, hr0, q0, q2, q3, q4, q13⟩ := hT.row i hi
  refine lv_aload_n hx hb dX7_turn_337 rfl (lv_at hl 0 rfl) ?_
  refine lv_iconst (v := 0) hx hb dX7_turn_338 (by decide) ?_
  refine x_iald hx hb hK.1 hP (by omega) (by omega) 0 hr0 rfl (cl_of_nI (i := 0) rfl (by omega)) (vp_in_of_nI (i := 0) rfl (by omega) (by omega)) dX7_turn_339 ?_
  refine lv_if_ne (tgt := 350) hx hb dX7_turn_340 (by decide) (fun h => absurd (q0.trans hkd) h) (fun _ => ?_)
  refine lv_aload_n hx hb dX7_turn_343 rfl (lv_at hl 0 rfl) ?_
  refine lv_iconst (v := 4) hx hb dX7_turn_344 (by decide) ?_
  refine x_iald hx hb hK.1 hP (by omega) (by omega) 0 hr0 rfl (cl_of_nI (i := 4) rfl (by omega)) (vp_in_of_nI (i := 4) rfl (by omega) (by omega)) dX7_turn_345 ?_
  refine lv_iconst (v := 1) hx hb dX7_turn_346 (by decide) ?_
  refine lv_icmp_ne (tgt := 352) hx hb dX7_turn_347 (by decide) (fun h => absurd (q4.trans hp) h) (fun _ => ?_)
  refine lv_iconst (v := 1) hx hb dX7_turn_350 (by decide) ?_
  exact W.zret (v := 1) hx hb hr rfl (fun tE ht hW => ⟨⟨_, _, rfl, ⟨rfl, hT, hF⟩, x_at ht hP⟩, hS.F ht⟩) hS.2.2 dX7_turn_351
set_option maxRecDepth 100000 in
set_option maxHeartbeats 4000000 in
/-- Told.turn: a test -/
theorem c_X7_turn_7o0 (l : Launch) (D : va_G) (cy : Nat → ClassId) (lo n : Nat) (w : Nat → va_E) (b L : Nat) (xs : Nat → Int32) (hbl : b < lo) (hL : L ≤ 260) (A : Nat → Prop) (t d wo : Nat) (wr : Nat → Nat) (nd : Nat) (G T P : Mem) (hT : TW cy w A lo n t b d wo wr nd G T P) (hG : GI nd G) (hnd : 0 < nd) (hd : d < 900000) (i : Nat) (hii : i = tn L xs d nd) (hk : tn L xs (d + 1) 8 = 7) (hkd : G (37 + 2 * i) 0 = 0) (hp : P (103 + 2 * i) 0 = 0) (hdu : P (103 + 2 * i) 1 = 0) : Met l yX7_turn wsX7_turn ({ frames := 4, cells := 0, slots := 0, locals := 100 }) (PcT D cy lo n w b L xs [.ref t]) (QxT D lo n (fun r u => r = 1 ∧ TW cy u A lo n t b (d + 2) wo wr nd (G) T (u2 P (103 + 2 * i) 1 1) ∧ Fr A w u)) 0 0 (fun q : Nat => lo ≤ q) := by
  refine Met.ofW (cc := cX7_turn) (maxL := 9) (ret := (some .boolean)) (by decide) rfl ?_
  intro p e s m args below meth c s₁ B hml hv
  obtain ⟨rfl, hP, hK, hS, hX⟩ := x_entryT hv
  have hx := B.exec
  have hb := B.bytes
  have hr := B.returns
  have hts := atoms_spec (ws := wsX7_turn) B.pre
  have hown : s.vm.findClass RX7 = some m.cls := findClass_of_methodNamed B.named
  have iX7 : ∀ w ∈ u_ws RX7 TX7 13, w ∈ wsX7_turn := by decide +kernel
  have htb := hT.tb
  have hnd6 := hG.1
  have hwo := hT.inn wo hT.woA.1
  have hi : i < nd := by rw [hii]; exact (dw_tn hnd (by omega)).2
  have hwr := hT.inn (wr i) (hT.wrA i hi).1
  have hwr2 := (hT.wrA i hi).2
  have hF : Fr A w w := Fr.rf
  have hl := lv_entry ([.ref t]) (n := 9) (Nat.le_of_ble_eq_true rfl)
  rw [lg_entry_eq]
  generalize (lg_sl ([.ref t]) ++ List.replicate (9 - (lg_sl ([.ref t])).length) Slot.unset).toArray = ls at hl ⊢
  have hl : lv_has ls 9 [(0, .ref t)] := hl
  refine lv_aload_n hx hb dX7_turn_0 rfl (lv_at hl 0 rfl) ?_
  refine lv_aload_n hx hb dX7_turn_1 rfl (lv_at hl 0 rfl) ?_
  refine x_get (ref := RX7) (C := RX7) (T := TX7) (N := 13) (ci := 7) (v := .ref wo) hx hb hts iX7 hown hK.1 hP (by omega) (by omega) hT.obj rfl 6 (by decide) (hts (.fieldLink RX7 31 "PoreFieldLaw$Told" "wells" "[[I") (by decide +kernel)) (fun _ h9 => h9) rfl dX7_turn_2 ?_
  obtain ⟨fw, hfw, hfi⟩ := hT.wells
  refine x_alenA hx hb hK.1 hP (by omega) (by omega) 6 hfw rfl dX7_turn_5 ?_
  refine x_calli (va_runV (As := [.int (nI nd)]) (rest := []) ⟨hx, hb, hml, hown, hts⟩ (c_X7_draw l D cy lo n w b L xs hbl hL t (d) wo ((G) 0 4) (by omega) (by omega) hT.obj (by omega) nd hnd (by omega)) (cwV 1 hts gX7_turn_X7_draw rfl rfl rfl (by decide +kernel) ⟨Nat.le_of_ble_eq_true rfl, Nat.le_of_ble_eq_true rfl⟩) (preVT hP hK (x_scr hX hbl hS) (x_recv (ci := 7) (q := (RX7, TX7, 13)) hK.1 hP (by omega) (by omega) rfl hT.obj)) rfl rfl hl.1 rfl (lv_room (Nat.le_of_ble_eq_true rfl)) dX7_turn_6 ⟨Nat.le_of_ble_eq_true rfl, Nat.le_of_ble_eq_true rfl⟩) hS (fun H locs hP hS => ?_)
  refine x_gen hP (fun v0 e0 hP => ?_)
  have hT : TW cy v0 A lo n t b (d + 1) wo wr nd (G) T P := by rw [e0]; exact hT.dr
  have hF : Fr A w v0 := fun a ha => by rw [e0]; exact (xu_ne (fun q => ha (by rw [q]; exact hT.own t (by omega) (by omega)))).trans (hF a ha)
  rw [(dw_tn (L := L) (xs := xs) (d := d) (N := nd) hnd (by omega)).1]
  rw [← hii]
  refine lv_istore_n (lv' := [(1, .int (nI i)), (0, .ref t)]) hx hb dX7_turn_9 rfl hl (by decide) rfl (fun ls hl => ?_)
  refine lv_aload_n hx hb dX7_turn_10 rfl (lv_at hl 1 rfl) ?_
  refine x_get (ref := RX7) (C := RX7) (T := TX7) (N := 13) (ci := 7) (v := .ref wo) hx hb hts iX7 hown hK.1 hP (by omega) (by omega) hT.obj rfl 6 (by decide) (hts (.fieldLink RX7 31 "PoreFieldLaw$Told" "wells" "[[I") (by decide +kernel)) (fun _ h9 => h9) rfl dX7_turn_11 ?_
  obtain ⟨fw, hfw, hfi⟩ := hT.wells
  refine lv_iload_n hx hb dX7_turn_14 rfl (lv_at hl 0 rfl) ?_
  refine x_aaldA hx hb hK.1 hP (by omega) (by omega) 6 hfw rfl (cl_of_nI (i := i) rfl (by omega)) (hfi i hi) (vp_in_of_nI (i := i) rfl (by omega) (by omega)) dX7_turn_15 ?_
  refine lv_astore_n (lv' := [(2, .ref (wr i)), (1, .int (nI i)), (0, .ref t)]) hx hb dX7_turn_16 rfl hl (by decide) rfl (fun ls hl => ?_)
  refine lv_aload_n hx hb dX7_turn_17 rfl (lv_at hl 2 rfl) ?_
  refine lv_bipush (v := 8) hx hb dX7_turn_18 (by decide) ?_
  refine x_calli (va_runV (As := [.int (nI 8)]) (rest := []) ⟨hx, hb, hml, hown, hts⟩ (c_X7_draw l D cy lo n v0 b L xs hbl hL t (d + 1) wo ((G) 0 4) (by omega) (by omega) hT.obj (by omega) 8 (by omega) (by omega)) (cwV 1 hts gX7_turn_X7_draw rfl rfl rfl (by decide +kernel) ⟨Nat.le_of_ble_eq_true rfl, Nat.le_of_ble_eq_true rfl⟩) (preVT hP hK (x_scr hX hbl hS) (x_recv (ci := 7) (q := (RX7, TX7, 13)) hK.1 hP (by omega) (by omega) rfl hT.obj)) rfl rfl hl.1 rfl (lv_room (Nat.le_of_ble_eq_true rfl)) dX7_turn_20 ⟨Nat.le_of_ble_eq_true rfl, Nat.le_of_ble_eq_true rfl⟩) hS (fun H locs hP hS => ?_)
  refine x_gen hP (fun v1 e1 hP => ?_)
  have hT : TW cy v1 A lo n t b (d + 2) wo wr nd (G) T P := by rw [e1]; exact hT.dr
  have hF : Fr A w v1 := fun a ha => by rw [e1]; exact (xu_ne (fun q => ha (by rw [q]; exact hT.own t (by omega) (by omega)))).trans (hF a ha)
  rw [(dw_tn (L := L) (xs := xs) (d := d + 1) (N := 8) (by omega) (by omega)).1]
  rw [hk]
  refine lv_tableOut (tgt := 337) hx hb dX7_turn_23 (by decide) (by decide) ?_
  obtain ⟨r, hr0, q0, q2, q3, q4, q13⟩ := hT.row i hi
  refine lv_aload_n hx hb dX7_turn_337 rfl (lv_at hl 0 rfl) ?_
  refine lv_iconst (v := 0) hx hb dX7_turn_338 (by decide) ?_
  refine x_iald hx hb hK.1 hP (by omega) (by omega) 0 hr0 rfl (cl_of_nI (i := 0) rfl (by omega)) (vp_in_of_nI (i := 0) rfl (by omega) (by omega)) dX7_turn_339 ?_
  refine lv_if_ne (tgt := 350) hx hb dX7_turn_340 (by decide) (fun h => absurd (q0.trans hkd) h) (fun _ => ?_)
  refine lv_aload_n hx hb dX7_turn_343 rfl (lv_at hl 0 rfl) ?_
  refine lv_iconst (v := 4) hx hb dX7_turn_344 (by decide) ?_
  refine x_iald hx hb hK.1 hP (by omega) (by omega) 0 hr0 rfl (cl_of_nI (i := 4) rfl (by omega)) (vp_in_of_nI (i := 4) rfl (by omega) (by omega)) dX7_turn_345 ?_
  refine lv_iconst (v := 1) hx hb dX7_turn_346 (by decide) ?_
  refine lv_icmp_ne (tgt := 352) hx hb dX7_turn_347 (by decide) (fun _ => ?_) (fun h => absurd h (show ¬ r 4 = 1 by rw [q4, hp]; decide))
  refine lv_aload_n hx hb dX7_turn_352 rfl (lv_at hl 0 rfl) ?_
  refine lv_bipush (v := 13) hx hb dX7_turn_353 (by decide) ?_
  refine x_iald hx hb hK.1 hP (by omega) (by omega) 0 hr0 rfl (cl_of_nI (i := 13) rfl (by omega)) (vp_in_of_nI (i := 13) rfl (by omega) (by omega)) dX7_turn_355 ?_
  refine lv_iconst (v := 1) hx hb dX7_turn_356 (by decide) ?_
  refine lv_icmp_ne (tgt := 364) hx hb dX7_turn_357 (by decide) (fun _ => ?_) (fun h => absurd h (show ¬ r 13 = 1 by rw [q13, hdu]; decide))
  refine lv_iconst (v := 0) hx hb dX7_turn_364 (by decide) ?_
  refine lv_istore (lv' := [(8, .int (0 : Int32)), (2, .ref (wr i)), (1, .int (nI i)), (0, .ref t)]) hx hb dX7_turn_365 hl (by decide) rfl (fun ls hl => ?_)
  refine lv_aload_n hx hb dX7_turn_367 rfl (lv_at hl 1 rfl) ?_
  refine lv_bipush (v := 13) hx hb dX7_turn_368 (by decide) ?_
  refine lv_iconst (v := 1) hx hb dX7_turn_370 (by decide) ?_
  refine x_iast hx hb hK.1 hP hS (by omega) (by omega) 0 hr0 rfl (cl_of_nI (i := 13) rfl (by omega)) (vp_in_of_nI (i := 13) rfl (by omega) (by omega)) dX7_turn_371 (fun H locs hP hS => ?_)
  refine lv_aload_n hx hb dX7_turn_372 rfl (lv_at hl 3 rfl) ?_
  refine x_get (ref := RX7) (C := RX7) (T := TX7) (N := 13) (ci := 7) (v := .ref (t + 1)) hx hb hts iX7 hown hK.1 hP (by omega) (by omega) ((xu_ne (by omega)).trans hT.obj) rfl 0 (by decide) (hts (.fieldLink RX7 10 "PoreFieldLaw$Told" "m" "LPoreField;") (by decide +kernel)) (fun _ h9 => h9) rfl dX7_turn_373 ?_
  refine lv_iload_n hx hb dX7_turn_376 rfl (lv_at hl 2 rfl) ?_
  have hpf : pw cy (va_up v1 (wr i) (.inl (cy 0, 14, .inl (upd r 13 1)))) (t + 1) G T P = va_up v1 (wr i) (.inl (cy 0, 14, .inl (upd r 13 1))) := pw_ext hT.pf (fun a h1 h2 => xu_ne (by omega))
  have hP := TW.to hpf hP
  refine x_calli (va_runV (As := [.int (nI i)]) (rest := []) ⟨hx, hb, hml, hown, hts⟩ (c_X6_test l D cy lo n (va_up v1 (wr i) (.inl (cy 0, 14, .inl (upd r 13 1)))) (t + 1) G T P (by omega) (by omega) nd hG i hi hp hkd (Or.inl hdu)) (cwV 1 hts gX7_turn_X6_test rfl rfl rfl (by decide +kernel) ⟨Nat.le_of_ble_eq_true rfl, Nat.le_of_ble_eq_true rfl⟩) (preV hP hK (x_recv (ci := 6) (q := (RX6, TX6, 11)) hK.1 hP (by omega) (by omega) rfl ((gw_out (by omega)).trans ((gw_out (by omega)).trans hw_0)))) rfl rfl hl.1 rfl (lv_room (Nat.le_of_ble_eq_true rfl)) dX7_turn_377 ⟨Nat.le_of_ble_eq_true rfl, Nat.le_of_ble_eq_true rfl⟩) hS (fun H locs hP hS => ?_)
  refine lv_iload hx hb dX7_turn_380 (lv_at hl 0 rfl) ?_
  refine lv_icmp_ne (tgt := 389) hx hb dX7_turn_382 (by decide) (fun h1 => absurd hdu h1) (fun h1 => ?_)
  refine lv_iconst (v := 1) hx hb dX7_turn_385 (by decide) ?_
  refine lv_goto (tgt := 390) hx hb dX7_turn_386 (by decide) ?_
  have hR : upd r 13 1 0 = G (37 + 2 * i) 0 ∧ upd r 13 1 2 = G (37 + 2 * i) 2 ∧ upd r 13 1 3 = G (37 + 2 * i) 3 ∧ upd r 13 1 4 = u2 P (103 + 2 * i) 1 1 (103 + 2 * i) 0 ∧ upd r 13 1 13 = u2 P (103 + 2 * i) 1 1 (103 + 2 * i) 1 := by
    rw [u2_ne (by omega), u2_same]
    exact ⟨q0, q2, q3, q4, rfl⟩
  exact W.zret (v := 1) hx hb hr rfl (fun tE ht hW => ⟨⟨_, _, rfl, ⟨rfl, hT.frow hi hR rfl (fun k hk => ⟨rfl, rfl⟩) (fun k hk hne => ⟨rfl, rfl, rfl, u2_ne (by omega), u2_ne (by omega)⟩) (fun j hj => rfl), hF.tr (hT.fr_row hi)⟩, x_at ht hP⟩, hS.F ht⟩) hS.2.2 dX7_turn_390
set_option maxRecDepth 100000 in
set_option maxHeartbeats 4000000 in
/-- Told.turn: a test -/
theorem c_X7_turn_7o1 (l : Launch) (D : va_G) (cy : Nat → ClassId) (lo n : Nat) (w : Nat → va_E) (b L : Nat) (xs : Nat → Int32) (hbl : b < lo) (hL : L ≤ 260) (A : Nat → Prop) (t d wo : Nat) (wr : Nat → Nat) (nd : Nat) (G T P : Mem) (hT : TW cy w A lo n t b d wo wr nd G T P) (hG : GI nd G) (hnd : 0 < nd) (hd : d < 900000) (i : Nat) (hii : i = tn L xs d nd) (hk : tn L xs (d + 1) 8 = 7) (hkd : G (37 + 2 * i) 0 = 0) (hp : P (103 + 2 * i) 0 = 0) (hdu : P (103 + 2 * i) 1 = 1) : Met l yX7_turn wsX7_turn ({ frames := 4, cells := 0, slots := 0, locals := 100 }) (PcT D cy lo n w b L xs [.ref t]) (QxT D lo n (fun r u => r = 1 ∧ TW cy u A lo n t b (d + 2) wo wr nd (G) T (u2 P (103 + 2 * i) 1 1) ∧ Fr A w u)) 0 0 (fun q : Nat => lo ≤ q) := by
  refine Met.ofW (cc := cX7_turn) (maxL := 9) (ret := (some .boolean)) (by decide) rfl ?_
  intro p e s m args below meth c s₁ B hml hv
  obtain ⟨rfl, hP, hK, hS, hX⟩ := x_entryT hv
  have hx := B.exec
  have hb := B.bytes
  have hr := B.returns
  have hts := atoms_spec (ws := wsX7_turn) B.pre
  have hown : s.vm.findClass RX7 = some m.cls := findClass_of_methodNamed B.named
  have iX7 : ∀ w ∈ u_ws RX7 TX7 13, w ∈ wsX7_turn := by decide +kernel
  have htb := hT.tb
  have hnd6 := hG.1
  have hwo := hT.inn wo hT.woA.1
  have hi : i < nd := by rw [hii]; exact (dw_tn hnd (by omega)).2
  have hwr := hT.inn (wr i) (hT.wrA i hi).1
  have hwr2 := (hT.wrA i hi).2
  have hF : Fr A w w := Fr.rf
  have hl := lv_entry ([.ref t]) (n := 9) (Nat.le_of_ble_eq_true rfl)
  rw [lg_entry_eq]
  generalize (lg_sl ([.ref t]) ++ List.replicate (9 - (lg_sl ([.ref t])).length) Slot.unset).toArray = ls at hl ⊢
  have hl : lv_has ls 9 [(0, .ref t)] := hl
  refine lv_aload_n hx hb dX7_turn_0 rfl (lv_at hl 0 rfl) ?_
  refine lv_aload_n hx hb dX7_turn_1 rfl (lv_at hl 0 rfl) ?_
  refine x_get (ref := RX7) (C := RX7) (T := TX7) (N := 13) (ci := 7) (v := .ref wo) hx hb hts iX7 hown hK.1 hP (by omega) (by omega) hT.obj rfl 6 (by decide) (hts (.fieldLink RX7 31 "PoreFieldLaw$Told" "wells" "[[I") (by decide +kernel)) (fun _ h9 => h9) rfl dX7_turn_2 ?_
  obtain ⟨fw, hfw, hfi⟩ := hT.wells
  refine x_alenA hx hb hK.1 hP (by omega) (by omega) 6 hfw rfl dX7_turn_5 ?_
  refine x_calli (va_runV (As := [.int (nI nd)]) (rest := []) ⟨hx, hb, hml, hown, hts⟩ (c_X7_draw l D cy lo n w b L xs hbl hL t (d) wo ((G) 0 4) (by omega) (by omega) hT.obj (by omega) nd hnd (by omega)) (cwV 1 hts gX7_turn_X7_draw rfl rfl rfl (by decide +kernel) ⟨Nat.le_of_ble_eq_true rfl, Nat.le_of_ble_eq_true rfl⟩) (preVT hP hK (x_scr hX hbl hS) (x_recv (ci := 7) (q := (RX7, TX7, 13)) hK.1 hP (by omega) (by omega) rfl hT.obj)) rfl rfl hl.1 rfl (lv_room (Nat.le_of_ble_eq_true rfl)) dX7_turn_6 ⟨Nat.le_of_ble_eq_true rfl, Nat.le_of_ble_eq_true rfl⟩) hS (fun H locs hP hS => ?_)
  refine x_gen hP (fun v0 e0 hP => ?_)
  have hT : TW cy v0 A lo n t b (d + 1) wo wr nd (G) T P := by rw [e0]; exact hT.dr
  have hF : Fr A w v0 := fun a ha => by rw [e0]; exact (xu_ne (fun q => ha (by rw [q]; exact hT.own t (by omega) (by omega)))).trans (hF a ha)
  rw [(dw_tn (L := L) (xs := xs) (d := d) (N := nd) hnd (by omega)).1]
  rw [← hii]
  refine lv_istore_n (lv' := [(1, .int (nI i)), (0, .ref t)]) hx hb dX7_turn_9 rfl hl (by decide) rfl (fun ls hl => ?_)
  refine lv_aload_n hx hb dX7_turn_10 rfl (lv_at hl 1 rfl) ?_
  refine x_get (ref := RX7) (C := RX7) (T := TX7) (N := 13) (ci := 7) (v := .ref wo) hx hb hts iX7 hown hK.1 hP (by omega) (by omega) hT.obj rfl 6 (by decide) (hts (.fieldLink RX7 31 "PoreFieldLaw$Told" "wells" "[[I") (by decide +kernel)) (fun _ h9 => h9) rfl dX7_turn_11 ?_
  obtain ⟨fw, hfw, hfi⟩ := hT.wells
  refine lv_iload_n hx hb dX7_turn_14 rfl (lv_at hl 0 rfl) ?_
  refine x_aaldA hx hb hK.1 hP (by omega) (by omega) 6 hfw rfl (cl_of_nI (i := i) rfl (by omega)) (hfi i hi) (vp_in_of_nI (i := i) rfl (by omega) (by omega)) dX7_turn_15 ?_
  refine lv_astore_n (lv' := [(2, .ref (wr i)), (1, .int (nI i)), (0, .ref t)]) hx hb dX7_turn_16 rfl hl (by decide) rfl (fun ls hl => ?_)
  refine lv_aload_n hx hb dX7_turn_17 rfl (lv_at hl 2 rfl) ?_
  refine lv_bipush (v := 8) hx hb dX7_turn_18 (by decide) ?_
  refine x_calli (va_runV (As := [.int (nI 8)]) (rest := []) ⟨hx, hb, hml, hown, hts⟩ (c_X7_draw l D cy lo n v0 b L xs hbl hL t (d + 1) wo ((G) 0 4) (by omega) (by omega) hT.obj (by omega) 8 (by omega) (by omega)) (cwV 1 hts gX7_turn_X7_draw rfl rfl rfl (by decide +kernel) ⟨Nat.le_of_ble_eq_true rfl, Nat.le_of_ble_eq_true rfl⟩) (preVT hP hK (x_scr hX hbl hS) (x_recv (ci := 7) (q := (RX7, TX7, 13)) hK.1 hP (by omega) (by omega) rfl hT.obj)) rfl rfl hl.1 rfl (lv_room (Nat.le_of_ble_eq_true rfl)) dX7_turn_20 ⟨Nat.le_of_ble_eq_true rfl, Nat.le_of_ble_eq_true rfl⟩) hS (fun H locs hP hS => ?_)
  refine x_gen hP (fun v1 e1 hP => ?_)
  have hT : TW cy v1 A lo n t b (d + 2) wo wr nd (G) T P := by rw [e1]; exact hT.dr
  have hF : Fr A w v1 := fun a ha => by rw [e1]; exact (xu_ne (fun q => ha (by rw [q]; exact hT.own t (by omega) (by omega)))).trans (hF a ha)
  rw [(dw_tn (L := L) (xs := xs) (d := d + 1) (N := 8) (by omega) (by omega)).1]
  rw [hk]
  refine lv_tableOut (tgt := 337) hx hb dX7_turn_23 (by decide) (by decide) ?_
  obtain ⟨r, hr0, q0, q2, q3, q4, q13⟩ := hT.row i hi
  refine lv_aload_n hx hb dX7_turn_337 rfl (lv_at hl 0 rfl) ?_
  refine lv_iconst (v := 0) hx hb dX7_turn_338 (by decide) ?_
  refine x_iald hx hb hK.1 hP (by omega) (by omega) 0 hr0 rfl (cl_of_nI (i := 0) rfl (by omega)) (vp_in_of_nI (i := 0) rfl (by omega) (by omega)) dX7_turn_339 ?_
  refine lv_if_ne (tgt := 350) hx hb dX7_turn_340 (by decide) (fun h => absurd (q0.trans hkd) h) (fun _ => ?_)
  refine lv_aload_n hx hb dX7_turn_343 rfl (lv_at hl 0 rfl) ?_
  refine lv_iconst (v := 4) hx hb dX7_turn_344 (by decide) ?_
  refine x_iald hx hb hK.1 hP (by omega) (by omega) 0 hr0 rfl (cl_of_nI (i := 4) rfl (by omega)) (vp_in_of_nI (i := 4) rfl (by omega) (by omega)) dX7_turn_345 ?_
  refine lv_iconst (v := 1) hx hb dX7_turn_346 (by decide) ?_
  refine lv_icmp_ne (tgt := 352) hx hb dX7_turn_347 (by decide) (fun _ => ?_) (fun h => absurd h (show ¬ r 4 = 1 by rw [q4, hp]; decide))
  refine lv_aload_n hx hb dX7_turn_352 rfl (lv_at hl 0 rfl) ?_
  refine lv_bipush (v := 13) hx hb dX7_turn_353 (by decide) ?_
  refine x_iald hx hb hK.1 hP (by omega) (by omega) 0 hr0 rfl (cl_of_nI (i := 13) rfl (by omega)) (vp_in_of_nI (i := 13) rfl (by omega) (by omega)) dX7_turn_355 ?_
  refine lv_iconst (v := 1) hx hb dX7_turn_356 (by decide) ?_
  refine lv_icmp_ne (tgt := 364) hx hb dX7_turn_357 (by decide) (fun h => absurd (q13.trans hdu) h) (fun _ => ?_)
  refine lv_iconst (v := 1) hx hb dX7_turn_360 (by decide) ?_
  refine lv_goto (tgt := 365) hx hb dX7_turn_361 (by decide) ?_
  refine lv_istore (lv' := [(8, .int (1 : Int32)), (2, .ref (wr i)), (1, .int (nI i)), (0, .ref t)]) hx hb dX7_turn_365 hl (by decide) rfl (fun ls hl => ?_)
  refine lv_aload_n hx hb dX7_turn_367 rfl (lv_at hl 1 rfl) ?_
  refine lv_bipush (v := 13) hx hb dX7_turn_368 (by decide) ?_
  refine lv_iconst (v := 1) hx hb dX7_turn_370 (by decide) ?_
  refine x_iast hx hb hK.1 hP hS (by omega) (by omega) 0 hr0 rfl (cl_of_nI (i := 13) rfl (by omega)) (vp_in_of_nI (i := 13) rfl (by omega) (by omega)) dX7_turn_371 (fun H locs hP hS => ?_)
  refine lv_aload_n hx hb dX7_turn_372 rfl (lv_at hl 3 rfl) ?_
  refine x_get (ref := RX7) (C := RX7) (T := TX7) (N := 13) (ci := 7) (v := .ref (t + 1)) hx hb hts iX7 hown hK.1 hP (by omega) (by omega) ((xu_ne (by omega)).trans hT.obj) rfl 0 (by decide) (hts (.fieldLink RX7 10 "PoreFieldLaw$Told" "m" "LPoreField;") (by decide +kernel)) (fun _ h9 => h9) rfl dX7_turn_373 ?_
  refine lv_iload_n hx hb dX7_turn_376 rfl (lv_at hl 2 rfl) ?_
  have hpf : pw cy (va_up v1 (wr i) (.inl (cy 0, 14, .inl (upd r 13 1)))) (t + 1) G T P = va_up v1 (wr i) (.inl (cy 0, 14, .inl (upd r 13 1))) := pw_ext hT.pf (fun a h1 h2 => xu_ne (by omega))
  have hP := TW.to hpf hP
  refine x_calli (va_runV (As := [.int (nI i)]) (rest := []) ⟨hx, hb, hml, hown, hts⟩ (c_X6_test l D cy lo n (va_up v1 (wr i) (.inl (cy 0, 14, .inl (upd r 13 1)))) (t + 1) G T P (by omega) (by omega) nd hG i hi hp hkd (Or.inr hdu)) (cwV 1 hts gX7_turn_X6_test rfl rfl rfl (by decide +kernel) ⟨Nat.le_of_ble_eq_true rfl, Nat.le_of_ble_eq_true rfl⟩) (preV hP hK (x_recv (ci := 6) (q := (RX6, TX6, 11)) hK.1 hP (by omega) (by omega) rfl ((gw_out (by omega)).trans ((gw_out (by omega)).trans hw_0)))) rfl rfl hl.1 rfl (lv_room (Nat.le_of_ble_eq_true rfl)) dX7_turn_377 ⟨Nat.le_of_ble_eq_true rfl, Nat.le_of_ble_eq_true rfl⟩) hS (fun H locs hP hS => ?_)
  refine lv_iload hx hb dX7_turn_380 (lv_at hl 0 rfl) ?_
  refine lv_icmp_ne (tgt := 389) hx hb dX7_turn_382 (by decide) (fun h1 => absurd hdu h1) (fun h1 => ?_)
  refine lv_iconst (v := 1) hx hb dX7_turn_385 (by decide) ?_
  refine lv_goto (tgt := 390) hx hb dX7_turn_386 (by decide) ?_
  have hR : upd r 13 1 0 = G (37 + 2 * i) 0 ∧ upd r 13 1 2 = G (37 + 2 * i) 2 ∧ upd r 13 1 3 = G (37 + 2 * i) 3 ∧ upd r 13 1 4 = u2 P (103 + 2 * i) 1 1 (103 + 2 * i) 0 ∧ upd r 13 1 13 = u2 P (103 + 2 * i) 1 1 (103 + 2 * i) 1 := by
    rw [u2_ne (by omega), u2_same]
    exact ⟨q0, q2, q3, q4, rfl⟩
  exact W.zret (v := 1) hx hb hr rfl (fun tE ht hW => ⟨⟨_, _, rfl, ⟨rfl, hT.frow hi hR rfl (fun k hk => ⟨rfl, rfl⟩) (fun k hk hne => ⟨rfl, rfl, rfl, u2_ne (by omega), u2_ne (by omega)⟩) (fun j hj => rfl), hF.tr (hT.fr_row hi)⟩, x_at ht hP⟩, hS.F ht⟩) hS.2.2 dX7_turn_390
