/-! Told.turn -/
def tn (L : Nat) (xs : Nat → Int32) (d N : Nat) : Nat := (dw L xs d N).toNatClampNeg
theorem dw_tn {L : Nat} {xs : Nat → Int32} {d N : Nat} (h0 : 0 < N) (hN : N < 2 ^ 31) : dw L xs d N = nI (tn L xs d N) ∧ tn L xs d N < N := by
  obtain ⟨k, h1, h2⟩ := lbel_ok (dval L xs d) h0 hN
  have e : dw L xs d N = nI k := h2
  have e2 : tn L xs d N = k := by
    unfold tn
    rw [e]
    exact nI_clamp (by omega)
  rw [e2]
  exact ⟨e, h1⟩
set_option maxRecDepth 100000 in
set_option maxHeartbeats 4000000 in
/-- Told.turn: a choke, of a well that is plugged -/
theorem c_X7_turn_0p (l : Launch) (D : va_G) (cy : Nat → ClassId) (lo n : Nat) (w : Nat → va_E) (b L : Nat) (xs : Nat → Int32) (hbl : b < lo) (hL : L ≤ 260) (A : Nat → Prop) (t d wo : Nat) (wr : Nat → Nat) (nd : Nat) (G T P : Mem) (hT : TW cy w A lo n t b d wo wr nd G T P) (hG : GI nd G) (hnd : 0 < nd) (hd : d < 900000) (i : Nat) (hii : i = tn L xs d nd) (hk : tn L xs (d + 1) 8 = 0) (hp : P (103 + 2 * i) 0 = 1) : Met l yX7_turn wsX7_turn ({ frames := 4, cells := 0, slots := 0, locals := 100 }) (PcT D cy lo n w b L xs [.ref t]) (QxT D lo n (fun r u => r = 1 ∧ TW cy u A lo n t b (d + 2) wo wr nd (G) T (P) ∧ Fr A w u)) 0 0 (fun q : Nat => lo ≤ q) := by
  refine Met.ofW (cc := cX7_turn) (maxL := 9) (ret := (some .boolean)) (by decide) rfl ?_
  intro p e s m args below meth c s₁ B hml hv
  obtain ⟨rfl, hP, hK, hS, hX⟩ := x_entryT hv
  have hx := B.exec
  have hb := B.bytes
  have hr := B.returns
  have hts := atoms_spec (ws := wsX7_turn) B.pre
  have hown : s.vm.findClass RX7 = some m.cls := findClass_of_methodNamed B.named
  have iX7 : ∀ w ∈ u_ws RX7 TX7 13, w ∈ wsX7_turn := by decide +kernel
  have htb := hT.tb
  have hnd6 := hG.1
  have hwo := hT.inn wo hT.woA.1
  have hi : i < nd := by rw [hii]; exact (dw_tn hnd (by omega)).2
  have hwr := hT.inn (wr i) (hT.wrA i hi).1
  have hwr2 := (hT.wrA i hi).2
  have hF : Fr A w w := Fr.rf
  have hl := lv_entry ([.ref t]) (n := 9) (Nat.le_of_ble_eq_true rfl)
  rw [lg_entry_eq]
  generalize (lg_sl ([.ref t]) ++ List.replicate (9 - (lg_sl ([.ref t])).length) Slot.unset).toArray = ls at hl ⊢
  have hl : lv_has ls 9 [(0, .ref t)] := hl
  refine lv_aload_n hx hb dX7_turn_0 rfl (lv_at hl 0 rfl) ?_
  refine lv_aload_n hx hb dX7_turn_1 rfl (lv_at hl 0 rfl) ?_
  refine x_get (ref := RX7) (C := RX7) (T := TX7) (N := 13) (ci := 7) (v := .ref wo) hx hb hts iX7 hown hK.1 hP (by omega) (by omega) hT.obj rfl 6 (by decide) (hts (.fieldLink RX7 31 "PoreFieldLaw$Told" "wells" "[[I") (by decide +kernel)) (fun _ h9 => h9) rfl dX7_turn_2 ?_
  obtain ⟨fw, hfw, hfi⟩ := hT.wells
  refine x_alenA hx hb hK.1 hP (by omega) (by omega) 6 hfw rfl dX7_turn_5 ?_
  refine x_calli (va_runV (As := [.int (nI nd)]) (rest := []) ⟨hx, hb, hml, hown, hts⟩ (c_X7_draw l D cy lo n w b L xs hbl hL t (d) wo ((G) 0 4) (by omega) (by omega) hT.obj (by omega) nd hnd (by omega)) (cwV 1 hts gX7_turn_X7_draw rfl rfl rfl (by decide +kernel) ⟨Nat.le_of_ble_eq_true rfl, Nat.le_of_ble_eq_true rfl⟩) (preVT hP hK (x_scr hX hbl hS) (x_recv (ci := 7) (q := (RX7, TX7, 13)) hK.1 hP (by omega) (by omega) rfl hT.obj)) rfl rfl hl.1 rfl (lv_room (Nat.le_of_ble_eq_true rfl)) dX7_turn_6 ⟨Nat.le_of_ble_eq_true rfl, Nat.le_of_ble_eq_true rfl⟩) hS (fun H locs hP hS => ?_)
  refine x_gen hP (fun v0 e0 hP => ?_)
  have hT : TW cy v0 A lo n t b (d + 1) wo wr nd (G) T P := by rw [e0]; exact hT.dr
  have hF : Fr A w v0 := fun a ha => by rw [e0]; exact (xu_ne (fun q => ha (by rw [q]; exact hT.own t (by omega) (by omega)))).trans (hF a ha)
  rw [(dw_tn (L := L) (xs := xs) (d := d) (N := nd) hnd (by omega)).1]
  rw [← hii]
  refine lv_istore_n (lv' := [(1, .int (nI i)), (0, .ref t)]) hx hb dX7_turn_9 rfl hl (by decide) rfl (fun ls hl => ?_)
  refine lv_aload_n hx hb dX7_turn_10 rfl (lv_at hl 1 rfl) ?_
  refine x_get (ref := RX7) (C := RX7) (T := TX7) (N := 13) (ci := 7) (v := .ref wo) hx hb hts iX7 hown hK.1 hP (by omega) (by omega) hT.obj rfl 6 (by decide) (hts (.fieldLink RX7 31 "PoreFieldLaw$Told" "wells" "[[I") (by decide +kernel)) (fun _ h9 => h9) rfl dX7_turn_11 ?_
  obtain ⟨fw, hfw, hfi⟩ := hT.wells
  refine lv_iload_n hx hb dX7_turn_14 rfl (lv_at hl 0 rfl) ?_
  refine x_aaldA hx hb hK.1 hP (by omega) (by omega) 6 hfw rfl (cl_of_nI (i := i) rfl (by omega)) (hfi i hi) (vp_in_of_nI (i := i) rfl (by omega) (by omega)) dX7_turn_15 ?_
  refine lv_astore_n (lv' := [(2, .ref (wr i)), (1, .int (nI i)), (0, .ref t)]) hx hb dX7_turn_16 rfl hl (by decide) rfl (fun ls hl => ?_)
  refine lv_aload_n hx hb dX7_turn_17 rfl (lv_at hl 2 rfl) ?_
  refine lv_bipush (v := 8) hx hb dX7_turn_18 (by decide) ?_
  refine x_calli (va_runV (As := [.int (nI 8)]) (rest := []) ⟨hx, hb, hml, hown, hts⟩ (c_X7_draw l D cy lo n v0 b L xs hbl hL t (d + 1) wo ((G) 0 4) (by omega) (by omega) hT.obj (by omega) 8 (by omega) (by omega)) (cwV 1 hts gX7_turn_X7_draw rfl rfl rfl (by decide +kernel) ⟨Nat.le_of_ble_eq_true rfl, Nat.le_of_ble_eq_true rfl⟩) (preVT hP hK (x_scr hX hbl hS) (x_recv (ci := 7) (q := (RX7, TX7, 13)) hK.1 hP (by omega) (by omega) rfl hT.obj)) rfl rfl hl.1 rfl (lv_room (Nat.le_of_ble_eq_true rfl)) dX7_turn_20 ⟨Nat.le_of_ble_eq_true rfl, Nat.le_of_ble_eq_true rfl⟩) hS (fun H locs hP hS => ?_)
  refine x_gen hP (fun v1 e1 hP => ?_)
  have hT : TW cy v1 A lo n t b (d + 2) wo wr nd (G) T P := by rw [e1]; exact hT.dr
  have hF : Fr A w v1 := fun a ha => by rw [e1]; exact (xu_ne (fun q => ha (by rw [q]; exact hT.own t (by omega) (by omega)))).trans (hF a ha)
  rw [(dw_tn (L := L) (xs := xs) (d := d + 1) (N := 8) (by omega) (by omega)).1]
  rw [hk]
  refine lv_tableIn (tgt := 64) (off := 41) hx hb dX7_turn_23 (by decide) (by decide) (by decide) (by decide) ?_
  obtain ⟨r, hr0, q0, q2, q3, q4, q13⟩ := hT.row i hi
  refine lv_aload_n hx hb dX7_turn_64 rfl (lv_at hl 0 rfl) ?_
  refine lv_iconst (v := 4) hx hb dX7_turn_65 (by decide) ?_
  refine x_iald hx hb hK.1 hP (by omega) (by omega) 0 hr0 rfl (cl_of_nI (i := 4) rfl (by omega)) (vp_in_of_nI (i := 4) rfl (by omega) (by omega)) dX7_turn_66 ?_
  refine lv_iconst (v := 1) hx hb dX7_turn_67 (by decide) ?_
  refine lv_icmp_eq (tgt := 85) hx hb dX7_turn_68 (by decide) (fun _ => ?_) (fun h => absurd (q4.trans hp) h)
  refine lv_iconst (v := 1) hx hb dX7_turn_85 (by decide) ?_
  refine lv_goto (tgt := 90) hx hb dX7_turn_86 (by decide) ?_
  exact W.zret (v := 1) hx hb hr rfl (fun tE ht hW => ⟨⟨_, _, rfl, ⟨rfl, hT, hF⟩, x_at ht hP⟩, hS.F ht⟩) hS.2.2 dX7_turn_90
set_option maxRecDepth 100000 in
set_option maxHeartbeats 4000000 in
/-- Told.turn: a choke -/
theorem c_X7_turn_0o (l : Launch) (D : va_G) (cy : Nat → ClassId) (lo n : Nat) (w : Nat → va_E) (b L : Nat) (xs : Nat → Int32) (hbl : b < lo) (hL : L ≤ 260) (A : Nat → Prop) (t d wo : Nat) (wr : Nat → Nat) (nd : Nat) (G T P : Mem) (hT : TW cy w A lo n t b d wo wr nd G T P) (hG : GI nd G) (hnd : 0 < nd) (hd : d < 900000) (i : Nat) (hii : i = tn L xs d nd) (hk : tn L xs (d + 1) 8 = 0) (hp : P (103 + 2 * i) 0 = 0) : Met l yX7_turn wsX7_turn ({ frames := 4, cells := 0, slots := 0, locals := 100 }) (PcT D cy lo n w b L xs [.ref t]) (QxT D lo n (fun r u => r = 1 ∧ TW cy u A lo n t b (d + 3) wo wr nd (u2 G (37 + 2 * i) 2 (nI (tn L xs (d + 2) 10))) T (P) ∧ Fr A w u)) 0 0 (fun q : Nat => lo ≤ q) := by
  refine Met.ofW (cc := cX7_turn) (maxL := 9) (ret := (some .boolean)) (by decide) rfl ?_
  intro p e s m args below meth c s₁ B hml hv
  obtain ⟨rfl, hP, hK, hS, hX⟩ := x_entryT hv
  have hx := B.exec
  have hb := B.bytes
  have hr := B.returns
  have hts := atoms_spec (ws := wsX7_turn) B.pre
  have hown : s.vm.findClass RX7 = some m.cls := findClass_of_methodNamed B.named
  have iX7 : ∀ w ∈ u_ws RX7 TX7 13, w ∈ wsX7_turn := by decide +kernel
  have htb := hT.tb
  have hnd6 := hG.1
  have hwo := hT.inn wo hT.woA.1
  have hi : i < nd := by rw [hii]; exact (dw_tn hnd (by omega)).2
  have hwr := hT.inn (wr i) (hT.wrA i hi).1
  have hwr2 := (hT.wrA i hi).2
  have hF : Fr A w w := Fr.rf
  have hl := lv_entry ([.ref t]) (n := 9) (Nat.le_of_ble_eq_true rfl)
  rw [lg_entry_eq]
  generalize (lg_sl ([.ref t]) ++ List.replicate (9 - (lg_sl ([.ref t])).length) Slot.unset).toArray = ls at hl ⊢
  have hl : lv_has ls 9 [(0, .ref t)] := hl
  refine lv_aload_n hx hb dX7_turn_0 rfl (lv_at hl 0 rfl) ?_
  refine lv_aload_n hx hb dX7_turn_1 rfl (lv_at hl 0 rfl) ?_
  refine x_get (ref := RX7) (C := RX7) (T := TX7) (N := 13) (ci := 7) (v := .ref wo) hx hb hts iX7 hown hK.1 hP (by omega) (by omega) hT.obj rfl 6 (by decide) (hts (.fieldLink RX7 31 "PoreFieldLaw$Told" "wells" "[[I") (by decide +kernel)) (fun _ h9 => h9) rfl dX7_turn_2 ?_
  obtain ⟨fw, hfw, hfi⟩ := hT.wells
  refine x_alenA hx hb hK.1 hP (by omega) (by omega) 6 hfw rfl dX7_turn_5 ?_
  refine x_calli (va_runV (As := [.int (nI nd)]) (rest := []) ⟨hx, hb, hml, hown, hts⟩ (c_X7_draw l D cy lo n w b L xs hbl hL t (d) wo ((G) 0 4) (by omega) (by omega) hT.obj (by omega) nd hnd (by omega)) (cwV 1 hts gX7_turn_X7_draw rfl rfl rfl (by decide +kernel) ⟨Nat.le_of_ble_eq_true rfl, Nat.le_of_ble_eq_true rfl⟩) (preVT hP hK (x_scr hX hbl hS) (x_recv (ci := 7) (q := (RX7, TX7, 13)) hK.1 hP (by omega) (by omega) rfl hT.obj)) rfl rfl hl.1 rfl (lv_room (Nat.le_of_ble_eq_true rfl)) dX7_turn_6 ⟨Nat.le_of_ble_eq_true rfl, Nat.le_of_ble_eq_true rfl⟩) hS (fun H locs hP hS => ?_)
  refine x_gen hP (fun v0 e0 hP => ?_)
  have hT : TW cy v0 A lo n t b (d + 1) wo wr nd (G) T P := by rw [e0]; exact hT.dr
  have hF : Fr A w v0 := fun a ha => by rw [e0]; exact (xu_ne (fun q => ha (by rw [q]; exact hT.own t (by omega) (by omega)))).trans (hF a ha)
  rw [(dw_tn (L := L) (xs := xs) (d := d) (N := nd) hnd (by omega)).1]
  rw [← hii]
  refine lv_istore_n (lv' := [(1, .int (nI i)), (0, .ref t)]) hx hb dX7_turn_9 rfl hl (by decide) rfl (fun ls hl => ?_)
  refine lv_aload_n hx hb dX7_turn_10 rfl (lv_at hl 1 rfl) ?_
  refine x_get (ref := RX7) (C := RX7) (T := TX7) (N := 13) (ci := 7) (v := .ref wo) hx hb hts iX7 hown hK.1 hP (by omega) (by omega) hT.obj rfl 6 (by decide) (hts (.fieldLink RX7 31 "PoreFieldLaw$Told" "wells" "[[I") (by decide +kernel)) (fun _ h9 => h9) rfl dX7_turn_11 ?_
  obtain ⟨fw, hfw, hfi⟩ := hT.wells
  refine lv_iload_n hx hb dX7_turn_14 rfl (lv_at hl 0 rfl) ?_
  refine x_aaldA hx hb hK.1 hP (by omega) (by omega) 6 hfw rfl (cl_of_nI (i := i) rfl (by omega)) (hfi i hi) (vp_in_of_nI (i := i) rfl (by omega) (by omega)) dX7_turn_15 ?_
  refine lv_astore_n (lv' := [(2, .ref (wr i)), (1, .int (nI i)), (0, .ref t)]) hx hb dX7_turn_16 rfl hl (by decide) rfl (fun ls hl => ?_)
  refine lv_aload_n hx hb dX7_turn_17 rfl (lv_at hl 2 rfl) ?_
  refine lv_bipush (v := 8) hx hb dX7_turn_18 (by decide) ?_
  refine x_calli (va_runV (As := [.int (nI 8)]) (rest := []) ⟨hx, hb, hml, hown, hts⟩ (c_X7_draw l D cy lo n v0 b L xs hbl hL t (d + 1) wo ((G) 0 4) (by omega) (by omega) hT.obj (by omega) 8 (by omega) (by omega)) (cwV 1 hts gX7_turn_X7_draw rfl rfl rfl (by decide +kernel) ⟨Nat.le_of_ble_eq_true rfl, Nat.le_of_ble_eq_true rfl⟩) (preVT hP hK (x_scr hX hbl hS) (x_recv (ci := 7) (q := (RX7, TX7, 13)) hK.1 hP (by omega) (by omega) rfl hT.obj)) rfl rfl hl.1 rfl (lv_room (Nat.le_of_ble_eq_true rfl)) dX7_turn_20 ⟨Nat.le_of_ble_eq_true rfl, Nat.le_of_ble_eq_true rfl⟩) hS (fun H locs hP hS => ?_)
  refine x_gen hP (fun v1 e1 hP => ?_)
  have hT : TW cy v1 A lo n t b (d + 2) wo wr nd (G) T P := by rw [e1]; exact hT.dr
  have hF : Fr A w v1 := fun a ha => by rw [e1]; exact (xu_ne (fun q => ha (by rw [q]; exact hT.own t (by omega) (by omega)))).trans (hF a ha)
  rw [(dw_tn (L := L) (xs := xs) (d := d + 1) (N := 8) (by omega) (by omega)).1]
  rw [hk]
  refine lv_tableIn (tgt := 64) (off := 41) hx hb dX7_turn_23 (by decide) (by decide) (by decide) (by decide) ?_
  obtain ⟨r, hr0, q0, q2, q3, q4, q13⟩ := hT.row i hi
  refine lv_aload_n hx hb dX7_turn_64 rfl (lv_at hl 0 rfl) ?_
  refine lv_iconst (v := 4) hx hb dX7_turn_65 (by decide) ?_
  refine x_iald hx hb hK.1 hP (by omega) (by omega) 0 hr0 rfl (cl_of_nI (i := 4) rfl (by omega)) (vp_in_of_nI (i := 4) rfl (by omega) (by omega)) dX7_turn_66 ?_
  refine lv_iconst (v := 1) hx hb dX7_turn_67 (by decide) ?_
  refine lv_icmp_eq (tgt := 85) hx hb dX7_turn_68 (by decide) (fun h => absurd (q4.trans hp) (by rw [h]; decide)) (fun _ => ?_)
  refine lv_aload_n hx hb dX7_turn_71 rfl (lv_at hl 2 rfl) ?_
  refine lv_iload_n hx hb dX7_turn_72 rfl (lv_at hl 1 rfl) ?_
  refine lv_aload_n hx hb dX7_turn_73 rfl (lv_at hl 2 rfl) ?_
  refine lv_bipush (v := 10) hx hb dX7_turn_74 (by decide) ?_
  refine x_calli (va_runV (As := [.int (nI 10)]) (rest := [.int (nI i), .ref t]) ⟨hx, hb, hml, hown, hts⟩ (c_X7_draw l D cy lo n v1 b L xs hbl hL t (d + 2) wo ((G) 0 4) (by omega) (by omega) hT.obj (by omega) 10 (by omega) (by omega)) (cwV 1 hts gX7_turn_X7_draw rfl rfl rfl (by decide +kernel) ⟨Nat.le_of_ble_eq_true rfl, Nat.le_of_ble_eq_true rfl⟩) (preVT hP hK (x_scr hX hbl hS) (x_recv (ci := 7) (q := (RX7, TX7, 13)) hK.1 hP (by omega) (by omega) rfl hT.obj)) rfl rfl hl.1 rfl (lv_room (Nat.le_of_ble_eq_true rfl)) dX7_turn_76 ⟨Nat.le_of_ble_eq_true rfl, Nat.le_of_ble_eq_true rfl⟩) hS (fun H locs hP hS => ?_)
  refine x_gen hP (fun v2 e2 hP => ?_)
  have hT : TW cy v2 A lo n t b (d + 3) wo wr nd (G) T P := by rw [e2]; exact hT.dr
  have hF : Fr A w v2 := fun a ha => by rw [e2]; exact (xu_ne (fun q => ha (by rw [q]; exact hT.own t (by omega) (by omega)))).trans (hF a ha)
  rw [(dw_tn (L := L) (xs := xs) (d := d + 2) (N := 10) (by omega) (by omega)).1]
  have h10 := (dw_tn (L := L) (xs := xs) (d := d + 2) (N := 10) (by omega) (by omega)).2
  generalize tn L xs (d + 2) 10 = y at h10 ⊢
  refine x_callx (va_runV (As := [.int (nI i), .int (nI y)]) (rest := []) ⟨hx, hb, hml, hown, hts⟩ (c_X7_choke l D cy lo n v2 b L xs A t (d + 3) wo wr nd G T P hT hG i hi (nI y) ((nI_leI (a := 0) (b := y) (by omega) (by omega)).mpr (by omega)) ((nI_leI (a := y) (b := 9) (by omega) (by omega)).mpr (by omega)) hp) (cwV 2 hts gX7_turn_X7_choke rfl rfl rfl (by decide +kernel) ⟨Nat.le_of_ble_eq_true rfl, Nat.le_of_ble_eq_true rfl⟩) (preVT hP hK (x_scr hX hbl hS) (x_recv (ci := 7) (q := (RX7, TX7, 13)) hK.1 hP (by omega) (by omega) rfl hT.obj)) rfl rfl hl.1 rfl (lv_room (Nat.le_of_ble_eq_true rfl)) dX7_turn_79 ⟨Nat.le_of_ble_eq_true rfl, Nat.le_of_ble_eq_true rfl⟩) hS (fun v9 u9 H locs hX9 hP hS => ?_)
  obtain ⟨rfl, hT9, hF9⟩ := hX9
  refine lv_if_eq (tgt := 89) hx hb dX7_turn_82 (by decide) (fun h => absurd h (by decide)) (fun _ => ?_)
  refine lv_iconst (v := 1) hx hb dX7_turn_85 (by decide) ?_
  refine lv_goto (tgt := 90) hx hb dX7_turn_86 (by decide) ?_
  exact W.zret (v := 1) hx hb hr rfl (fun tE ht hW => ⟨⟨_, _, rfl, ⟨rfl, hT9, hF.tr hF9⟩, x_at ht hP⟩, hS.F ht⟩) hS.2.2 dX7_turn_90
set_option maxRecDepth 100000 in
set_option maxHeartbeats 4000000 in
/-- Told.turn: a choke, of a well that is plugged -/
theorem c_X7_turn_1p (l : Launch) (D : va_G) (cy : Nat → ClassId) (lo n : Nat) (w : Nat → va_E) (b L : Nat) (xs : Nat → Int32) (hbl : b < lo) (hL : L ≤ 260) (A : Nat → Prop) (t d wo : Nat) (wr : Nat → Nat) (nd : Nat) (G T P : Mem) (hT : TW cy w A lo n t b d wo wr nd G T P) (hG : GI nd G) (hnd : 0 < nd) (hd : d < 900000) (i : Nat) (hii : i = tn L xs d nd) (hk : tn L xs (d + 1) 8 = 1) (hp : P (103 + 2 * i) 0 = 1) : Met l yX7_turn wsX7_turn ({ frames := 4, cells := 0, slots := 0, locals := 100 }) (PcT D cy lo n w b L xs [.ref t]) (QxT D lo n (fun r u => r = 1 ∧ TW cy u A lo n t b (d + 2) wo wr nd (G) T (P) ∧ Fr A w u)) 0 0 (fun q : Nat => lo ≤ q) := by
  refine Met.ofW (cc := cX7_turn) (maxL := 9) (ret := (some .boolean)) (by decide) rfl ?_
  intro p e s m args below meth c s₁ B hml hv
  obtain ⟨rfl, hP, hK, hS, hX⟩ := x_entryT hv
  have hx := B.exec
  have hb := B.bytes
  have hr := B.returns
  have hts := atoms_spec (ws := wsX7_turn) B.pre
  have hown : s.vm.findClass RX7 = some m.cls := findClass_of_methodNamed B.named
  have iX7 : ∀ w ∈ u_ws RX7 TX7 13, w ∈ wsX7_turn := by decide +kernel
  have htb := hT.tb
  have hnd6 := hG.1
  have hwo := hT.inn wo hT.woA.1
  have hi : i < nd := by rw [hii]; exact (dw_tn hnd (by omega)).2
  have hwr := hT.inn (wr i) (hT.wrA i hi).1
  have hwr2 := (hT.wrA i hi).2
  have hF : Fr A w w := Fr.rf
  have hl := lv_entry ([.ref t]) (n := 9) (Nat.le_of_ble_eq_true rfl)
  rw [lg_entry_eq]
  generalize (lg_sl ([.ref t]) ++ List.replicate (9 - (lg_sl ([.ref t])).length) Slot.unset).toArray = ls at hl ⊢
  have hl : lv_has ls 9 [(0, .ref t)] := hl
  refine lv_aload_n hx hb dX7_turn_0 rfl (lv_at hl 0 rfl) ?_
  refine lv_aload_n hx hb dX7_turn_1 rfl (lv_at hl 0 rfl) ?_
  refine x_get (ref := RX7) (C := RX7) (T := TX7) (N := 13) (ci := 7) (v := .ref wo) hx hb hts iX7 hown hK.1 hP (by omega) (by omega) hT.obj rfl 6 (by decide) (hts (.fieldLink RX7 31 "PoreFieldLaw$Told" "wells" "[[I") (by decide +kernel)) (fun _ h9 => h9) rfl dX7_turn_2 ?_
  obtain ⟨fw, hfw, hfi⟩ := hT.wells
  refine x_alenA hx hb hK.1 hP (by omega) (by omega) 6 hfw rfl dX7_turn_5 ?_
  refine x_calli (va_runV (As := [.int (nI nd)]) (rest := []) ⟨hx, hb, hml, hown, hts⟩ (c_X7_draw l D cy lo n w b L xs hbl hL t (d) wo ((G) 0 4) (by omega) (by omega) hT.obj (by omega) nd hnd (by omega)) (cwV 1 hts gX7_turn_X7_draw rfl rfl rfl (by decide +kernel) ⟨Nat.le_of_ble_eq_true rfl, Nat.le_of_ble_eq_true rfl⟩) (preVT hP hK (x_scr hX hbl hS) (x_recv (ci := 7) (q := (RX7, TX7, 13)) hK.1 hP (by omega) (by omega) rfl hT.obj)) rfl rfl hl.1 rfl (lv_room (Nat.le_of_ble_eq_true rfl)) dX7_turn_6 ⟨Nat.le_of_ble_eq_true rfl, Nat.le_of_ble_eq_true rfl⟩) hS (fun H locs hP hS => ?_)
  refine x_gen hP (fun v0 e0 hP => ?_)
  have hT : TW cy v0 A lo n t b (d + 1) wo wr nd (G) T P := by rw [e0]; exact hT.dr
  have hF : Fr A w v0 := fun a ha => by rw [e0]; exact (xu_ne (fun q => ha (by rw [q]; exact hT.own t (by omega) (by omega)))).trans (hF a ha)
  rw [(dw_tn (L := L) (xs := xs) (d := d) (N := nd) hnd (by omega)).1]
  rw [← hii]
  refine lv_istore_n (lv' := [(1, .int (nI i)), (0, .ref t)]) hx hb dX7_turn_9 rfl hl (by decide) rfl (fun ls hl => ?_)
  refine lv_aload_n hx hb dX7_turn_10 rfl (lv_at hl 1 rfl) ?_
  refine x_get (ref := RX7) (C := RX7) (T := TX7) (N := 13) (ci := 7) (v := .ref wo) hx hb hts iX7 hown hK.1 hP (by omega) (by omega) hT.obj rfl 6 (by decide) (hts (.fieldLink RX7 31 "PoreFieldLaw$Told" "wells" "[[I") (by decide +kernel)) (fun _ h9 => h9) rfl dX7_turn_11 ?_
  obtain ⟨fw, hfw, hfi⟩ := hT.wells
  refine lv_iload_n hx hb dX7_turn_14 rfl (lv_at hl 0 rfl) ?_
  refine x_aaldA hx hb hK.1 hP (by omega) (by omega) 6 hfw rfl (cl_of_nI (i := i) rfl (by omega)) (hfi i hi) (vp_in_of_nI (i := i) rfl (by omega) (by omega)) dX7_turn_15 ?_
  refine lv_astore_n (lv' := [(2, .ref (wr i)), (1, .int (nI i)), (0, .ref t)]) hx hb dX7_turn_16 rfl hl (by decide) rfl (fun ls hl => ?_)
  refine lv_aload_n hx hb dX7_turn_17 rfl (lv_at hl 2 rfl) ?_
  refine lv_bipush (v := 8) hx hb dX7_turn_18 (by decide) ?_
  refine x_calli (va_runV (As := [.int (nI 8)]) (rest := []) ⟨hx, hb, hml, hown, hts⟩ (c_X7_draw l D cy lo n v0 b L xs hbl hL t (d + 1) wo ((G) 0 4) (by omega) (by omega) hT.obj (by omega) 8 (by omega) (by omega)) (cwV 1 hts gX7_turn_X7_draw rfl rfl rfl (by decide +kernel) ⟨Nat.le_of_ble_eq_true rfl, Nat.le_of_ble_eq_true rfl⟩) (preVT hP hK (x_scr hX hbl hS) (x_recv (ci := 7) (q := (RX7, TX7, 13)) hK.1 hP (by omega) (by omega) rfl hT.obj)) rfl rfl hl.1 rfl (lv_room (Nat.le_of_ble_eq_true rfl)) dX7_turn_20 ⟨Nat.le_of_ble_eq_true rfl, Nat.le_of_ble_eq_true rfl⟩) hS (fun H locs hP hS => ?_)
  refine x_gen hP (fun v1 e1 hP => ?_)
  have hT : TW cy v1 A lo n t b (d + 2) wo wr nd (G) T P := by rw [e1]; exact hT.dr
  have hF : Fr A w v1 := fun a ha => by rw [e1]; exact (xu_ne (fun q => ha (by rw [q]; exact hT.own t (by omega) (by omega)))).trans (hF a ha)
  rw [(dw_tn (L := L) (xs := xs) (d := d + 1) (N := 8) (by omega) (by omega)).1]
  rw [hk]
  refine lv_tableIn (tgt := 64) (off := 41) hx hb dX7_turn_23 (by decide) (by decide) (by decide) (by decide) ?_
  obtain ⟨r, hr0, q0, q2, q3, q4, q13⟩ := hT.row i hi
  refine lv_aload_n hx hb dX7_turn_64 rfl (lv_at hl 0 rfl) ?_
  refine lv_iconst (v := 4) hx hb dX7_turn_65 (by decide) ?_
  refine x_iald hx hb hK.1 hP (by omega) (by omega) 0 hr0 rfl (cl_of_nI (i := 4) rfl (by omega)) (vp_in_of_nI (i := 4) rfl (by omega) (by omega)) dX7_turn_66 ?_
  refine lv_iconst (v := 1) hx hb dX7_turn_67 (by decide) ?_
  refine lv_icmp_eq (tgt := 85) hx hb dX7_turn_68 (by decide) (fun _ => ?_) (fun h => absurd (q4.trans hp) h)
  refine lv_iconst (v := 1) hx hb dX7_turn_85 (by decide) ?_
  refine lv_goto (tgt := 90) hx hb dX7_turn_86 (by decide) ?_
  exact W.zret (v := 1) hx hb hr rfl (fun tE ht hW => ⟨⟨_, _, rfl, ⟨rfl, hT, hF⟩, x_at ht hP⟩, hS.F ht⟩) hS.2.2 dX7_turn_90
set_option maxRecDepth 100000 in
set_option maxHeartbeats 4000000 in
/-- Told.turn: a choke -/
theorem c_X7_turn_1o (l : Launch) (D : va_G) (cy : Nat → ClassId) (lo n : Nat) (w : Nat → va_E) (b L : Nat) (xs : Nat → Int32) (hbl : b < lo) (hL : L ≤ 260) (A : Nat → Prop) (t d wo : Nat) (wr : Nat → Nat) (nd : Nat) (G T P : Mem) (hT : TW cy w A lo n t b d wo wr nd G T P) (hG : GI nd G) (hnd : 0 < nd) (hd : d < 900000) (i : Nat) (hii : i = tn L xs d nd) (hk : tn L xs (d + 1) 8 = 1) (hp : P (103 + 2 * i) 0 = 0) : Met l yX7_turn wsX7_turn ({ frames := 4, cells := 0, slots := 0, locals := 100 }) (PcT D cy lo n w b L xs [.ref t]) (QxT D lo n (fun r u => r = 1 ∧ TW cy u A lo n t b (d + 3) wo wr nd (u2 G (37 + 2 * i) 2 (nI (tn L xs (d + 2) 10))) T (P) ∧ Fr A w u)) 0 0 (fun q : Nat => lo ≤ q) := by
  refine Met.ofW (cc := cX7_turn) (maxL := 9) (ret := (some .boolean)) (by decide) rfl ?_
  intro p e s m args below meth c s₁ B hml hv
  obtain ⟨rfl, hP, hK, hS, hX⟩ := x_entryT hv
  have hx := B.exec
  have hb := B.bytes
  have hr := B.returns
  have hts := atoms_spec (ws := wsX7_turn) B.pre
  have hown : s.vm.findClass RX7 = some m.cls := findClass_of_methodNamed B.named
  have iX7 : ∀ w ∈ u_ws RX7 TX7 13, w ∈ wsX7_turn := by decide +kernel
  have htb := hT.tb
  have hnd6 := hG.1
  have hwo := hT.inn wo hT.woA.1
  have hi : i < nd := by rw [hii]; exact (dw_tn hnd (by omega)).2
  have hwr := hT.inn (wr i) (hT.wrA i hi).1
  have hwr2 := (hT.wrA i hi).2
  have hF : Fr A w w := Fr.rf
  have hl := lv_entry ([.ref t]) (n := 9) (Nat.le_of_ble_eq_true rfl)
  rw [lg_entry_eq]
  generalize (lg_sl ([.ref t]) ++ List.replicate (9 - (lg_sl ([.ref t])).length) Slot.unset).toArray = ls at hl ⊢
  have hl : lv_has ls 9 [(0, .ref t)] := hl
  refine lv_aload_n hx hb dX7_turn_0 rfl (lv_at hl 0 rfl) ?_
  refine lv_aload_n hx hb dX7_turn_1 rfl (lv_at hl 0 rfl) ?_
  refine x_get (ref := RX7) (C := RX7) (T := TX7) (N := 13) (ci := 7) (v := .ref wo) hx hb hts iX7 hown hK.1 hP (by omega) (by omega) hT.obj rfl 6 (by decide) (hts (.fieldLink RX7 31 "PoreFieldLaw$Told" "wells" "[[I") (by decide +kernel)) (fun _ h9 => h9) rfl dX7_turn_2 ?_
  obtain ⟨fw, hfw, hfi⟩ := hT.wells
  refine x_alenA hx hb hK.1 hP (by omega) (by omega) 6 hfw rfl dX7_turn_5 ?_
  refine x_calli (va_runV (As := [.int (nI nd)]) (rest := []) ⟨hx, hb, hml, hown, hts⟩ (c_X7_draw l D cy lo n w b L xs hbl hL t (d) wo ((G) 0 4) (by omega) (by omega) hT.obj (by omega) nd hnd (by omega)) (cwV 1 hts gX7_turn_X7_draw rfl rfl rfl (by decide +kernel) ⟨Nat.le_of_ble_eq_true rfl, Nat.le_of_ble_eq_true rfl⟩) (preVT hP hK (x_scr hX hbl hS) (x_recv (ci := 7) (q := (RX7, TX7, 13)) hK.1 hP (by omega) (by omega) rfl hT.obj)) rfl rfl hl.1 rfl (lv_room (Nat.le_of_ble_eq_true rfl)) dX7_turn_6 ⟨Nat.le_of_ble_eq_true rfl, Nat.le_of_ble_eq_true rfl⟩) hS (fun H locs hP hS => ?_)
  refine x_gen hP (fun v0 e0 hP => ?_)
  have hT : TW cy v0 A lo n t b (d + 1) wo wr nd (G) T P := by rw [e0]; exact hT.dr
  have hF : Fr A w v0 := fun a ha => by rw [e0]; exact (xu_ne (fun q => ha (by rw [q]; exact hT.own t (by omega) (by omega)))).trans (hF a ha)
  rw [(dw_tn (L := L) (xs := xs) (d := d) (N := nd) hnd (by omega)).1]
  rw [← hii]
  refine lv_istore_n (lv' := [(1, .int (nI i)), (0, .ref t)]) hx hb dX7_turn_9 rfl hl (by decide) rfl (fun ls hl => ?_)
  refine lv_aload_n hx hb dX7_turn_10 rfl (lv_at hl 1 rfl) ?_
  refine x_get (ref := RX7) (C := RX7) (T := TX7) (N := 13) (ci := 7) (v := .ref wo) hx hb hts iX7 hown hK.1 hP (by omega) (by omega) hT.obj rfl 6 (by decide) (hts (.fieldLink RX7 31 "PoreFieldLaw$Told" "wells" "[[I") (by decide +kernel)) (fun _ h9 => h9) rfl dX7_turn_11 ?_
  obtain ⟨fw, hfw, hfi⟩ := hT.wells
  refine lv_iload_n hx hb dX7_turn_14 rfl (lv_at hl 0 rfl) ?_
  refine x_aaldA hx hb hK.1 hP (by omega) (by omega) 6 hfw rfl (cl_of_nI (i := i) rfl (by omega)) (hfi i hi) (vp_in_of_nI (i := i) rfl (by omega) (by omega)) dX7_turn_15 ?_
  refine lv_astore_n (lv' := [(2, .ref (wr i)), (1, .int (nI i)), (0, .ref t)]) hx hb dX7_turn_16 rfl hl (by decide) rfl (fun ls hl => ?_)
  refine lv_aload_n hx hb dX7_turn_17 rfl (lv_at hl 2 rfl) ?_
  refine lv_bipush (v := 8) hx hb dX7_turn_18 (by decide) ?_
  refine x_calli (va_runV (As := [.int (nI 8)]) (rest := []) ⟨hx, hb, hml, hown, hts⟩ (c_X7_draw l D cy lo n v0 b L xs hbl hL t (d + 1) wo ((G) 0 4) (by omega) (by omega) hT.obj (by omega) 8 (by omega) (by omega)) (cwV 1 hts gX7_turn_X7_draw rfl rfl rfl (by decide +kernel) ⟨Nat.le_of_ble_eq_true rfl, Nat.le_of_ble_eq_true rfl⟩) (preVT hP hK (x_scr hX hbl hS) (x_recv (ci := 7) (q := (RX7, TX7, 13)) hK.1 hP (by omega) (by omega) rfl hT.obj)) rfl rfl hl.1 rfl (lv_room (Nat.le_of_ble_eq_true rfl)) dX7_turn_20 ⟨Nat.le_of_ble_eq_true rfl, Nat.le_of_ble_eq_true rfl⟩) hS (fun H locs hP hS => ?_)
  refine x_gen hP (fun v1 e1 hP => ?_)
  have hT : TW cy v1 A lo n t b (d + 2) wo wr nd (G) T P := by rw [e1]; exact hT.dr
  have hF : Fr A w v1 := fun a ha => by rw [e1]; exact (xu_ne (fun q => ha (by rw [q]; exact hT.own t (by omega) (by omega)))).trans (hF a ha)
  rw [(dw_tn (L := L) (xs := xs) (d := d + 1) (N := 8) (by omega) (by omega)).1]
  rw [hk]
  refine lv_tableIn (tgt := 64) (off := 41) hx hb dX7_turn_23 (by decide) (by decide) (by decide) (by decide) ?_
  obtain ⟨r, hr0, q0, q2, q3, q4, q13⟩ := hT.row i hi
  refine lv_aload_n hx hb dX7_turn_64 rfl (lv_at hl 0 rfl) ?_
  refine lv_iconst (v := 4) hx hb dX7_turn_65 (by decide) ?_
  refine x_iald hx hb hK.1 hP (by omega) (by omega) 0 hr0 rfl (cl_of_nI (i := 4) rfl (by omega)) (vp_in_of_nI (i := 4) rfl (by omega) (by omega)) dX7_turn_66 ?_
  refine lv_iconst (v := 1) hx hb dX7_turn_67 (by decide) ?_
  refine lv_icmp_eq (tgt := 85) hx hb dX7_turn_68 (by decide) (fun h => absurd (q4.trans hp) (by rw [h]; decide)) (fun _ => ?_)
  refine lv_aload_n hx hb dX7_turn_71 rfl (lv_at hl 2 rfl) ?_
  refine lv_iload_n hx hb dX7_turn_72 rfl (lv_at hl 1 rfl) ?_
  refine lv_aload_n hx hb dX7_turn_73 rfl (lv_at hl 2 rfl) ?_
  refine lv_bipush (v := 10) hx hb dX7_turn_74 (by decide) ?_
  refine x_calli (va_runV (As := [.int (nI 10)]) (rest := [.int (nI i), .ref t]) ⟨hx, hb, hml, hown, hts⟩ (c_X7_draw l D cy lo n v1 b L xs hbl hL t (d + 2) wo ((G) 0 4) (by omega) (by omega) hT.obj (by omega) 10 (by omega) (by omega)) (cwV 1 hts gX7_turn_X7_draw rfl rfl rfl (by decide +kernel) ⟨Nat.le_of_ble_eq_true rfl, Nat.le_of_ble_eq_true rfl⟩) (preVT hP hK (x_scr hX hbl hS) (x_recv (ci := 7) (q := (RX7, TX7, 13)) hK.1 hP (by omega) (by omega) rfl hT.obj)) rfl rfl hl.1 rfl (lv_room (Nat.le_of_ble_eq_true rfl)) dX7_turn_76 ⟨Nat.le_of_ble_eq_true rfl, Nat.le_of_ble_eq_true rfl⟩) hS (fun H locs hP hS => ?_)
  refine x_gen hP (fun v2 e2 hP => ?_)
  have hT : TW cy v2 A lo n t b (d + 3) wo wr nd (G) T P := by rw [e2]; exact hT.dr
  have hF : Fr A w v2 := fun a ha => by rw [e2]; exact (xu_ne (fun q => ha (by rw [q]; exact hT.own t (by omega) (by omega)))).trans (hF a ha)
  rw [(dw_tn (L := L) (xs := xs) (d := d + 2) (N := 10) (by omega) (by omega)).1]
  have h10 := (dw_tn (L := L) (xs := xs) (d := d + 2) (N := 10) (by omega) (by omega)).2
  generalize tn L xs (d + 2) 10 = y at h10 ⊢
  refine x_callx (va_runV (As := [.int (nI i), .int (nI y)]) (rest := []) ⟨hx, hb, hml, hown, hts⟩ (c_X7_choke l D cy lo n v2 b L xs A t (d + 3) wo wr nd G T P hT hG i hi (nI y) ((nI_leI (a := 0) (b := y) (by omega) (by omega)).mpr (by omega)) ((nI_leI (a := y) (b := 9) (by omega) (by omega)).mpr (by omega)) hp) (cwV 2 hts gX7_turn_X7_choke rfl rfl rfl (by decide +kernel) ⟨Nat.le_of_ble_eq_true rfl, Nat.le_of_ble_eq_true rfl⟩) (preVT hP hK (x_scr hX hbl hS) (x_recv (ci := 7) (q := (RX7, TX7, 13)) hK.1 hP (by omega) (by omega) rfl hT.obj)) rfl rfl hl.1 rfl (lv_room (Nat.le_of_ble_eq_true rfl)) dX7_turn_79 ⟨Nat.le_of_ble_eq_true rfl, Nat.le_of_ble_eq_true rfl⟩) hS (fun v9 u9 H locs hX9 hP hS => ?_)
  obtain ⟨rfl, hT9, hF9⟩ := hX9
  refine lv_if_eq (tgt := 89) hx hb dX7_turn_82 (by decide) (fun h => absurd h (by decide)) (fun _ => ?_)
  refine lv_iconst (v := 1) hx hb dX7_turn_85 (by decide) ?_
  refine lv_goto (tgt := 90) hx hb dX7_turn_86 (by decide) ?_
  exact W.zret (v := 1) hx hb hr rfl (fun tE ht hW => ⟨⟨_, _, rfl, ⟨rfl, hT9, hF.tr hF9⟩, x_at ht hP⟩, hS.F ht⟩) hS.2.2 dX7_turn_90
set_option maxRecDepth 100000 in
set_option maxHeartbeats 4000000 in
/-- Told.turn: a rank -/
theorem c_X7_turn_2 (l : Launch) (D : va_G) (cy : Nat → ClassId) (lo n : Nat) (w : Nat → va_E) (b L : Nat) (xs : Nat → Int32) (hbl : b < lo) (hL : L ≤ 260) (A : Nat → Prop) (t d wo : Nat) (wr : Nat → Nat) (nd : Nat) (G T P : Mem) (hT : TW cy w A lo n t b d wo wr nd G T P) (hG : GI nd G) (hnd : 0 < nd) (hd : d < 900000) (i : Nat) (hii : i = tn L xs d nd) (hk : tn L xs (d + 1) 8 = 2) : Met l yX7_turn wsX7_turn ({ frames := 4, cells := 0, slots := 0, locals := 100 }) (PcT D cy lo n w b L xs [.ref t]) (QxT D lo n (fun r u => r = 1 ∧ TW cy u A lo n t b (d + 3) wo wr nd (u2 G (37 + 2 * i) 3 (nI (tn L xs (d + 2) 9 + 1))) T (P) ∧ Fr A w u)) 0 0 (fun q : Nat => lo ≤ q) := by
  refine Met.ofW (cc := cX7_turn) (maxL := 9) (ret := (some .boolean)) (by decide) rfl ?_
  intro p e s m args below meth c s₁ B hml hv
  obtain ⟨rfl, hP, hK, hS, hX⟩ := x_entryT hv
  have hx := B.exec
  have hb := B.bytes
  have hr := B.returns
  have hts := atoms_spec (ws := wsX7_turn) B.pre
  have hown : s.vm.findClass RX7 = some m.cls := findClass_of_methodNamed B.named
  have iX7 : ∀ w ∈ u_ws RX7 TX7 13, w ∈ wsX7_turn := by decide +kernel
  have htb := hT.tb
  have hnd6 := hG.1
  have hwo := hT.inn wo hT.woA.1
  have hi : i < nd := by rw [hii]; exact (dw_tn hnd (by omega)).2
  have hwr := hT.inn (wr i) (hT.wrA i hi).1
  have hwr2 := (hT.wrA i hi).2
  have hF : Fr A w w := Fr.rf
  have hl := lv_entry ([.ref t]) (n := 9) (Nat.le_of_ble_eq_true rfl)
  rw [lg_entry_eq]
  generalize (lg_sl ([.ref t]) ++ List.replicate (9 - (lg_sl ([.ref t])).length) Slot.unset).toArray = ls at hl ⊢
  have hl : lv_has ls 9 [(0, .ref t)] := hl
  refine lv_aload_n hx hb dX7_turn_0 rfl (lv_at hl 0 rfl) ?_
  refine lv_aload_n hx hb dX7_turn_1 rfl (lv_at hl 0 rfl) ?_
  refine x_get (ref := RX7) (C := RX7) (T := TX7) (N := 13) (ci := 7) (v := .ref wo) hx hb hts iX7 hown hK.1 hP (by omega) (by omega) hT.obj rfl 6 (by decide) (hts (.fieldLink RX7 31 "PoreFieldLaw$Told" "wells" "[[I") (by decide +kernel)) (fun _ h9 => h9) rfl dX7_turn_2 ?_
  obtain ⟨fw, hfw, hfi⟩ := hT.wells
  refine x_alenA hx hb hK.1 hP (by omega) (by omega) 6 hfw rfl dX7_turn_5 ?_
  refine x_calli (va_runV (As := [.int (nI nd)]) (rest := []) ⟨hx, hb, hml, hown, hts⟩ (c_X7_draw l D cy lo n w b L xs hbl hL t (d) wo ((G) 0 4) (by omega) (by omega) hT.obj (by omega) nd hnd (by omega)) (cwV 1 hts gX7_turn_X7_draw rfl rfl rfl (by decide +kernel) ⟨Nat.le_of_ble_eq_true rfl, Nat.le_of_ble_eq_true rfl⟩) (preVT hP hK (x_scr hX hbl hS) (x_recv (ci := 7) (q := (RX7, TX7, 13)) hK.1 hP (by omega) (by omega) rfl hT.obj)) rfl rfl hl.1 rfl (lv_room (Nat.le_of_ble_eq_true rfl)) dX7_turn_6 ⟨Nat.le_of_ble_eq_true rfl, Nat.le_of_ble_eq_true rfl⟩) hS (fun H locs hP hS => ?_)
  refine x_gen hP (fun v0 e0 hP => ?_)
  have hT : TW cy v0 A lo n t b (d + 1) wo wr nd (G) T P := by rw [e0]; exact hT.dr
  have hF : Fr A w v0 := fun a ha => by rw [e0]; exact (xu_ne (fun q => ha (by rw [q]; exact hT.own t (by omega) (by omega)))).trans (hF a ha)
  rw [(dw_tn (L := L) (xs := xs) (d := d) (N := nd) hnd (by omega)).1]
  rw [← hii]
  refine lv_istore_n (lv' := [(1, .int (nI i)), (0, .ref t)]) hx hb dX7_turn_9 rfl hl (by decide) rfl (fun ls hl => ?_)
  refine lv_aload_n hx hb dX7_turn_10 rfl (lv_at hl 1 rfl) ?_
  refine x_get (ref := RX7) (C := RX7) (T := TX7) (N := 13) (ci := 7) (v := .ref wo) hx hb hts iX7 hown hK.1 hP (by omega) (by omega) hT.obj rfl 6 (by decide) (hts (.fieldLink RX7 31 "PoreFieldLaw$Told" "wells" "[[I") (by decide +kernel)) (fun _ h9 => h9) rfl dX7_turn_11 ?_
  obtain ⟨fw, hfw, hfi⟩ := hT.wells
  refine lv_iload_n hx hb dX7_turn_14 rfl (lv_at hl 0 rfl) ?_
  refine x_aaldA hx hb hK.1 hP (by omega) (by omega) 6 hfw rfl (cl_of_nI (i := i) rfl (by omega)) (hfi i hi) (vp_in_of_nI (i := i) rfl (by omega) (by omega)) dX7_turn_15 ?_
  refine lv_astore_n (lv' := [(2, .ref (wr i)), (1, .int (nI i)), (0, .ref t)]) hx hb dX7_turn_16 rfl hl (by decide) rfl (fun ls hl => ?_)
  refine lv_aload_n hx hb dX7_turn_17 rfl (lv_at hl 2 rfl) ?_
  refine lv_bipush (v := 8) hx hb dX7_turn_18 (by decide) ?_
  refine x_calli (va_runV (As := [.int (nI 8)]) (rest := []) ⟨hx, hb, hml, hown, hts⟩ (c_X7_draw l D cy lo n v0 b L xs hbl hL t (d + 1) wo ((G) 0 4) (by omega) (by omega) hT.obj (by omega) 8 (by omega) (by omega)) (cwV 1 hts gX7_turn_X7_draw rfl rfl rfl (by decide +kernel) ⟨Nat.le_of_ble_eq_true rfl, Nat.le_of_ble_eq_true rfl⟩) (preVT hP hK (x_scr hX hbl hS) (x_recv (ci := 7) (q := (RX7, TX7, 13)) hK.1 hP (by omega) (by omega) rfl hT.obj)) rfl rfl hl.1 rfl (lv_room (Nat.le_of_ble_eq_true rfl)) dX7_turn_20 ⟨Nat.le_of_ble_eq_true rfl, Nat.le_of_ble_eq_true rfl⟩) hS (fun H locs hP hS => ?_)
  refine x_gen hP (fun v1 e1 hP => ?_)
  have hT : TW cy v1 A lo n t b (d + 2) wo wr nd (G) T P := by rw [e1]; exact hT.dr
  have hF : Fr A w v1 := fun a ha => by rw [e1]; exact (xu_ne (fun q => ha (by rw [q]; exact hT.own t (by omega) (by omega)))).trans (hF a ha)
  rw [(dw_tn (L := L) (xs := xs) (d := d + 1) (N := 8) (by omega) (by omega)).1]
  rw [hk]
  refine lv_tableIn (tgt := 91) (off := 68) hx hb dX7_turn_23 (by decide) (by decide) (by decide) (by decide) ?_
  obtain ⟨r, hr0, q0, q2, q3, q4, q13⟩ := hT.row i hi
  refine lv_aload_n hx hb dX7_turn_91 rfl (lv_at hl 0 rfl) ?_
  refine lv_iconst (v := 3) hx hb dX7_turn_92 (by decide) ?_
  refine x_iald hx hb hK.1 hP (by omega) (by omega) 0 hr0 rfl (cl_of_nI (i := 3) rfl (by omega)) (vp_in_of_nI (i := 3) rfl (by omega) (by omega)) dX7_turn_93 ?_
  rw [q3]
  refine lv_istore_n (lv' := [(3, .int (G (37 + 2 * i) 3)), (2, .ref (wr i)), (1, .int (nI i)), (0, .ref t)]) hx hb dX7_turn_94 rfl hl (by decide) rfl (fun ls hl => ?_)
  refine lv_aload_n hx hb dX7_turn_95 rfl (lv_at hl 1 rfl) ?_
  refine lv_iconst (v := 3) hx hb dX7_turn_96 (by decide) ?_
  refine lv_iconst (v := 1) hx hb dX7_turn_97 (by decide) ?_
  refine lv_aload_n hx hb dX7_turn_98 rfl (lv_at hl 3 rfl) ?_
  refine lv_bipush (v := 9) hx hb dX7_turn_99 (by decide) ?_
  refine x_calli (va_runV (As := [.int (nI 9)]) (rest := [.int 1, .int 3, .ref (wr i)]) ⟨hx, hb, hml, hown, hts⟩ (c_X7_draw l D cy lo n v1 b L xs hbl hL t (d + 2) wo ((G) 0 4) (by omega) (by omega) hT.obj (by omega) 9 (by omega) (by omega)) (cwV 1 hts gX7_turn_X7_draw rfl rfl rfl (by decide +kernel) ⟨Nat.le_of_ble_eq_true rfl, Nat.le_of_ble_eq_true rfl⟩) (preVT hP hK (x_scr hX hbl hS) (x_recv (ci := 7) (q := (RX7, TX7, 13)) hK.1 hP (by omega) (by omega) rfl hT.obj)) rfl rfl hl.1 rfl (lv_room (Nat.le_of_ble_eq_true rfl)) dX7_turn_101 ⟨Nat.le_of_ble_eq_true rfl, Nat.le_of_ble_eq_true rfl⟩) hS (fun H locs hP hS => ?_)
  refine x_gen hP (fun v2 e2 hP => ?_)
  have hT : TW cy v2 A lo n t b (d + 3) wo wr nd (G) T P := by rw [e2]; exact hT.dr
  have hF : Fr A w v2 := fun a ha => by rw [e2]; exact (xu_ne (fun q => ha (by rw [q]; exact hT.own t (by omega) (by omega)))).trans (hF a ha)
  rw [(dw_tn (L := L) (xs := xs) (d := d + 2) (N := 9) (by omega) (by omega)).1]
  have h9 := (dw_tn (L := L) (xs := xs) (d := d + 2) (N := 9) (by omega) (by omega)).2
  generalize tn L xs (d + 2) 9 = y at h9 ⊢
  refine lv_iadd hx hb dX7_turn_104 ?_
  rw [Int32.add_comm, nI_1]
  obtain ⟨r, hr0, q0, q2, q3, q4, q13⟩ := hT.row i hi
  refine x_iast hx hb hK.1 hP hS (by omega) (by omega) 0 hr0 rfl (cl_of_nI (i := 3) rfl (by omega)) (vp_in_of_nI (i := 3) rfl (by omega) (by omega)) dX7_turn_105 (fun H locs hP hS => ?_)
  refine lv_aload_n hx hb dX7_turn_106 rfl (lv_at hl 3 rfl) ?_
  refine x_get (ref := RX7) (C := RX7) (T := TX7) (N := 13) (ci := 7) (v := .ref (t + 1)) hx hb hts iX7 hown hK.1 hP (by omega) (by omega) ((xu_ne (by omega)).trans hT.obj) rfl 0 (by decide) (hts (.fieldLink RX7 10 "PoreFieldLaw$Told" "m" "LPoreField;") (by decide +kernel)) (fun _ h9 => h9) rfl dX7_turn_107 ?_
  refine lv_iload_n hx hb dX7_turn_110 rfl (lv_at hl 2 rfl) ?_
  refine lv_aload_n hx hb dX7_turn_111 rfl (lv_at hl 1 rfl) ?_
  refine lv_iconst (v := 3) hx hb dX7_turn_112 (by decide) ?_
  refine x_iald hx hb hK.1 hP (by omega) (by omega) 0 (xu_same _ _ _) rfl (cl_of_nI (i := 3) rfl (by omega)) (vp_in_of_nI (i := 3) rfl (by omega) (by omega)) dX7_turn_113 ?_
  rw [show upd r 3 (nI (y + 1)) 3 = nI (y + 1) from rfl]
  have hpf : pw cy (va_up v2 (wr i) (.inl (cy 0, 14, .inl (upd r 3 (nI (y + 1)))))) (t + 1) G T P = va_up v2 (wr i) (.inl (cy 0, 14, .inl (upd r 3 (nI (y + 1))))) := pw_ext hT.pf (fun a h1 h2 => xu_ne (by omega))
  have hP := TW.to hpf hP
  refine x_calli (va_runV (As := [.int (nI i), .int (nI (y + 1))]) (rest := []) ⟨hx, hb, hml, hown, hts⟩ (c_X6_rank l D cy lo n (va_up v2 (wr i) (.inl (cy 0, 14, .inl (upd r 3 (nI (y + 1)))))) (t + 1) G T P (by omega) (by omega) nd hG i hi (nI (y + 1)) ((nI_leI (a := 1) (b := y + 1) (by omega) (by omega)).mpr (by omega)) ((nI_leI (a := y + 1) (b := 9) (by omega) (by omega)).mpr (by omega))) (cwV 2 hts gX7_turn_X6_rank rfl rfl rfl (by decide +kernel) ⟨Nat.le_of_ble_eq_true rfl, Nat.le_of_ble_eq_true rfl⟩) (preV hP hK (x_recv (ci := 6) (q := (RX6, TX6, 11)) hK.1 hP (by omega) (by omega) rfl ((gw_out (by omega)).trans ((gw_out (by omega)).trans hw_0)))) rfl rfl hl.1 rfl (lv_room (Nat.le_of_ble_eq_true rfl)) dX7_turn_114 ⟨Nat.le_of_ble_eq_true rfl, Nat.le_of_ble_eq_true rfl⟩) hS (fun H locs hP hS => ?_)
  refine lv_iload_n hx hb dX7_turn_117 rfl (lv_at hl 0 rfl) ?_
  refine lv_icmp_ne (tgt := 125) hx hb dX7_turn_118 (by decide) (fun h1 => absurd rfl h1) (fun h1 => ?_)
  refine lv_iconst (v := 1) hx hb dX7_turn_121 (by decide) ?_
  refine lv_goto (tgt := 126) hx hb dX7_turn_122 (by decide) ?_
  have hR : upd r 3 (nI (y + 1)) 0 = u2 G (37 + 2 * i) 3 (nI (y + 1)) (37 + 2 * i) 0 ∧ upd r 3 (nI (y + 1)) 2 = u2 G (37 + 2 * i) 3 (nI (y + 1)) (37 + 2 * i) 2 ∧ upd r 3 (nI (y + 1)) 3 = u2 G (37 + 2 * i) 3 (nI (y + 1)) (37 + 2 * i) 3 ∧ upd r 3 (nI (y + 1)) 4 = P (103 + 2 * i) 0 ∧ upd r 3 (nI (y + 1)) 13 = P (103 + 2 * i) 1 := by
    rw [u2_ne (by omega), u2_ne (by omega), u2_same]
    exact ⟨q0, q2, rfl, q4, q13⟩
  exact W.zret (v := 1) hx hb hr rfl (fun tE ht hW => ⟨⟨_, _, rfl, ⟨rfl, hT.frow hi hR (u2_ne (by omega)) (fun k hk => ⟨u2_ne (by omega), u2_ne (by omega)⟩) (fun k hk hne => ⟨u2_ne (by omega), u2_ne (by omega), u2_ne (by omega), rfl, rfl⟩) (fun j hj => u2_ne (by omega)), hF.tr (hT.fr_row hi)⟩, x_at ht hP⟩, hS.F ht⟩) hS.2.2 dX7_turn_126
