/-! Told.found -/
def zt (z : Nat) : Int32 := if z = 0 then 0 else 1
theorem zt_01 {z : Nat} : zt z = 0 ∨ zt z = 1 := by
  unfold zt
  split
  · exact Or.inl rfl
  · exact Or.inr rfl
/-- a cell: told or not; the ground, and how many draws -/
def m_layS (L : Nat) (xs : Nat → Int32) (c : Nat) (q : Mem × Nat) : Mem × Nat := if tn L xs q.2 3 = 0 then (q.1, q.2 + 1) else (m_cell q.1 c (nI (15 + tn L xs (q.2 + 1) 60)) (nI (tn L xs (q.2 + 2) 90)) (nI (tn L xs (q.2 + 3) 60)) (nI (tn L xs (q.2 + 4) 40)), q.2 + 5)
def m_fltS (L : Nat) (xs : Nat → Int32) (_ : Nat) (q : Mem × Nat) : Mem × Nat := (m_shut (m_shut q.1 (tn L xs q.2 3 + 4 * tn L xs (q.2 + 1) 4) 1 (zt (tn L xs (q.2 + 2) 3))) (tn L xs (q.2 + 3) 12) 0 (zt (tn L xs (q.2 + 4) 3)), q.2 + 5)
def m_wlK (L : Nat) (xs : Nat → Int32) (kd : Int32) (dd k : Nat) (G : Mem) : Mem × Nat := (u2 (m_wellG G k (tn L xs dd 16) kd) (37 + 2 * k) 2 (nI (2 + tn L xs (dd + 1) 8)), dd + 2)
def m_wlS (L : Nat) (xs : Nat → Int32) (k : Nat) (q : Mem × Nat) : Mem × Nat := if k = 0 then m_wlK L xs 0 q.2 k q.1 else if tn L xs q.2 5 < 3 then m_wlK L xs 0 (q.2 + 1) k q.1 else m_wlK L xs (nI (1 + tn L xs (q.2 + 1) 2)) (q.2 + 2) k q.1
def m_found (L : Nat) (xs : Nat → Int32) (d : Nat) (G : Mem) : Mem × Nat := fo (m_wlS L xs) 3 (fo (m_fltS L xs) 5 (fo (m_layS L xs) 16 (G, d)))
section
variable {p : Program} {l : Launch} {e : Env} {R : Room} {s : State} {m : MethodId} {args : Array Value} {below : List Frame} {meth : Method} {c : Code} {H : Heap} {locs : List Loc} {cells slots : Nat} {Q : State → Prop} {D : va_G} {cl : List vw_C} {lo n : Nat} {w : Nat → va_E}
theorem x_szn {g : JFrame} (hz : s.heap.size + cells = lo + n) (h0 : 0 < n) (hP : va_P D cl (rl lo n w) H) (kk : H.size = lo + n → W p l e R s m args below meth c H locs cells slots Q g) : W p l e R s m args below meth c H locs cells slots Q g := by
  obtain ⟨k, rfl⟩ : ∃ k, n = k + 1 := ⟨n - 1, by omega⟩
  exact x_sz hz hP kk
end
section
variable {cy : Nat → ClassId} {w u u' : Nat → va_E} {A A1 A2 : Nat → Prop} {lo n n1 n2 t b d1 d2 wo1 wo2 nd nd2 : Nat} {wr1 wr2 : Nat → Nat} {G1 G2 T P : Mem}
/-- found on its way: what it has made lies behind lo + n -/
def FW (cy : Nat → ClassId) (w : Nat → va_E) (A : Nat → Prop) (lo n t b : Nat) (T P : Mem) (n1 : Nat) (u : Nat → va_E) (A1 : Nat → Prop) (d1 wo1 : Nat) (wr1 : Nat → Nat) (nd : Nat) (G1 : Mem) : Prop :=
  TW cy u A1 lo n1 t b d1 wo1 wr1 nd G1 T P ∧ GI nd G1 ∧ (∀ i, nd ≤ i → G1 (37 + 2 * i) 2 = 0 ∧ G1 (37 + 2 * i) 3 = 5) ∧ (∀ a, A a → A1 a) ∧ (∀ a, A1 a → A a ∨ lo + n ≤ a) ∧ (∀ a, ¬ A1 a → u a = w a) ∧ n ≤ n1
theorem FW.st (h : FW cy w A lo n t b T P n1 u A1 d1 wo1 wr1 nd G1) (hT : TW cy u' A2 lo n2 t b d2 wo2 wr2 nd2 G2 T P) (hF : Fr A2 u u') (h1 : ∀ a, A1 a → A2 a) (h2 : ∀ a, A2 a → A1 a ∨ lo + n1 ≤ a) (hn : n1 ≤ n2) (hG : GI nd2 G2) (hf : ∀ i, nd2 ≤ i → G2 (37 + 2 * i) 2 = 0 ∧ G2 (37 + 2 * i) 3 = 5) : FW cy w A lo n t b T P n2 u' A2 d2 wo2 wr2 nd2 G2 := by
  obtain ⟨-, -, -, g1, g2, g3, g4⟩ := h
  exact ⟨hT, hG, hf, fun a ha => h1 a (g1 a ha), fun a ha => (h2 a ha).elim (g2 a) (fun q => Or.inr (by omega)), fun a ha => (hF a ha).trans (g3 a (fun q => ha (h1 a q))), Nat.le_trans g4 hn⟩
theorem FW.dr (h : FW cy w A lo n t b T P n1 u A1 d1 wo1 wr1 nd G1) : FW cy w A lo n t b T P n1 (va_up u t (.inr (7, tF t b d2 wo1 (G1 0 4)))) A1 d2 wo1 wr1 nd G1 := h.st h.1.dr h.1.fr_dr (fun _ q => q) (fun _ q => Or.inl q) (Nat.le_refl _) h.2.1 h.2.2.1
theorem shut_k {G : Mem} {c k j : Nat} {b x : Int32} (h : k ≠ 5 + 2 * c) : m_shut G c b x k j = G k j := by
  unfold m_shut
  split
  · exact u2_ne (by omega)
  · exact u2_ne (by omega)
end
set_option maxRecDepth 100000 in
set_option maxHeartbeats 8000000 in
/-- Told.found -/
theorem c_X7_found (l : Launch) (D : va_G) (cy : Nat → ClassId) (lo n : Nat) (w : Nat → va_E) (b L : Nat) (xs : Nat → Int32) (hbl : b < lo) (hL : L ≤ 260) (A : Nat → Prop) (t d wo : Nat) (wr : Nat → Nat) (G T P : Mem) (hT : TW cy w A lo n t b d wo wr 0 G T P) (hG : GI 0 G) (hfr : ∀ i, G (37 + 2 * i) 2 = 0 ∧ G (37 + 2 * i) 3 = 5) (hfp : ∀ i, i < 6 → P (103 + 2 * i) 0 = 0 ∧ P (103 + 2 * i) 1 = 0) (hd : d < 800000) : Met l yX7_found wsX7_found ({ frames := 4, cells := 22, slots := 120, locals := 104 }) (PcZ D cy lo n w b L xs [.ref t, .int 3]) (QzT D lo (fun v n1 u => v = 1 ∧ n1 ≤ n + 22 ∧ ∃ (A1 : Nat → Prop) (wo1 : Nat) (wr1 : Nat → Nat), FW cy w A lo n t b T P n1 u A1 (m_found L xs d G).2 wo1 wr1 3 (m_found L xs d G).1)) 22 120 (fun q : Nat => lo ≤ q) := by
  refine Met.ofW (cc := cX7_found) (maxL := 3) (ret := (some .boolean)) (by decide) rfl ?_
  intro p e s m args below meth c s₁ B hml hv
  obtain ⟨rfl, hP, hK, hS, hX, hZ⟩ := x_entryZ hv
  have hx := B.exec
  have hb := B.bytes
  have hr := B.returns
  have hts := atoms_spec (ws := wsX7_found) B.pre
  have hown : s.vm.findClass RX7 = some m.cls := findClass_of_methodNamed B.named
  have hlocks := B.notSynchronized
  have hl := lv_entry ([.ref t, .int 3]) (n := 3) (Nat.le_of_ble_eq_true rfl)
  rw [lg_entry_eq]
  generalize (lg_sl ([.ref t, .int 3]) ++ List.replicate (3 - (lg_sl ([.ref t, .int 3])).length) Slot.unset).toArray = ls at hl ⊢
  have hl : lv_has ls 3 [(0, .ref t), (1, .int 3)] := hl
  have key3 : ∀ (k j : Nat) (H : Heap) (locs : List Loc) (ls : Array Slot) (n1 : Nat) (u : Nat → va_E) (A1 : Nat → Prop) (d1 wo1 : Nat) (wr1 : Nat → Nat) (G1 : Mem) (cells slots : Nat), j + k = 3 → lv_has ls 3 [(2, .int (nI j)), (0, .ref t), (1, .int 3)] → FW cy w A lo n t b T P n1 u A1 d1 wo1 wr1 j G1 → (G1, d1) = fo (m_wlS L xs) j (fo (m_fltS L xs) 5 (fo (m_layS L xs) 16 (G, d))) → d1 ≤ d + 105 + 4 * j → n1 ≤ n + 16 + 2 * j → slots ≤ 48 + 21 * j → s.heap.size + cells = lo + n1 → va_P D vwCl (rl lo n1 u) H → va_S (fun q : Nat => lo ≤ q) s.heap H locs → W p l e ({ frames := 4, cells := 22, slots := 120, locals := 104 } : Room) s m (([.ref t, .int 3] : List Value).toArray) below meth c H locs cells slots (MQ below ((QzT D lo (fun v n1 u => v = 1 ∧ n1 ≤ n + 22 ∧ ∃ (A1 : Nat → Prop) (wo1 : Nat) (wr1 : Nat → Nat), FW cy w A lo n t b T P n1 u A1 (m_found L xs d G).2 wo1 wr1 3 (m_found L xs d G).1))) (([.ref t, .int 3] : List Value).toArray) s 22 120 (fun q : Nat => lo ≤ q)) (F0 m 137 ls []) := by
    intro k
    induction k with
    | zero =>
      intro j H locs ls n1 u A1 d1 wo1 wr1 G1 cells slots hj hl hF hq hd1 hn1 hsl hz hP hS
      have hj : j = 3 := by omega
      subst hj
      refine lv_iload_n hx hb dX7_found_137 rfl (lv_at hl 0 rfl) ?_
      refine lv_iload_n hx hb dX7_found_138 rfl (lv_at hl 2 rfl) ?_
      refine lv_icmp_ge (tgt := 207) hx hb dX7_found_139 (by decide) (fun _ => ?_) (fun c9 => absurd (show nI 3 ≤ nI 3 by decide) c9)
      refine lv_iconst (v := 1) hx hb dX7_found_207 (by decide) ?_
      have htb := hF.1.tb
      refine x_szn hz (by omega) hP (fun hsz => ?_)
      refine W.widen (k := 22) (n := 120) (by omega) (by omega) ?_
      refine W.zret (v := 1) hx hb hr rfl (fun tE ht hW => ⟨⟨_, (n1, u), rfl, ⟨rfl, by omega, A1, wo1, wr1, ?_⟩, x_at ht hP, by rw [ht]; exact hsz⟩, hS.F ht⟩) hS.2.2 dX7_found_208
      have e : m_found L xs d G = (G1, d1) := hq.symm
      rw [e]
      exact hF
    | succ k ih =>
      intro j H locs ls n1 u A1 d1 wo1 wr1 G1 cells slots hj hl hF hq hd1 hn1 hsl hz hP hS
      have htb := hF.1.tb
      have hjn : j < 3 := by omega
      have k171 : ∀ (kd : Int32) (dd : Nat) (v : Nat → va_E) (H : Heap) (locs : List Loc), 0 ≤ kd → kd ≤ 2 → FW cy w A lo n t b T P n1 v A1 dd wo1 wr1 j G1 → m_wlK L xs kd dd j G1 = fo (m_wlS L xs) (j + 1) (fo (m_fltS L xs) 5 (fo (m_layS L xs) 16 (G, d))) → dd ≤ d1 + 2 → va_P D vwCl (rl lo n1 v) H → va_S (fun q : Nat => lo ≤ q) s.heap H locs → W p l e ({ frames := 4, cells := 22, slots := 120, locals := 104 } : Room) s m (([.ref t, .int 3] : List Value).toArray) below meth c H locs cells slots (MQ below ((QzT D lo (fun v n1 u => v = 1 ∧ n1 ≤ n + 22 ∧ ∃ (A1 : Nat → Prop) (wo1 : Nat) (wr1 : Nat → Nat), FW cy w A lo n t b T P n1 u A1 (m_found L xs d G).2 wo1 wr1 3 (m_found L xs d G).1))) (([.ref t, .int 3] : List Value).toArray) s 22 120 (fun q : Nat => lo ≤ q)) (F0 m 171 ls [.int kd, .ref t]) := by
        intro kd dd v H locs hk1 hk2 hF hq hdd hP hS
        refine lv_aload_n hx hb dX7_found_171 rfl (lv_at hl 1 rfl) ?_
        refine lv_bipush (v := 16) hx hb dX7_found_172 (by decide) ?_
        refine x_calli (va_runV (As := [.int (nI 16)]) (rest := [.int kd, .ref t]) ⟨hx, hb, hml, hown, hts⟩ (c_X7_draw l D cy lo n1 v b L xs hbl hL t (dd) wo1 _ (by omega) (by omega) hF.1.obj (by omega) 16 (by omega) (by omega)) (cwV 1 hts gX7_found_X7_draw rfl rfl rfl (by decide +kernel) ⟨Nat.le_of_ble_eq_true rfl, Nat.le_of_ble_eq_true rfl⟩) (preVT hP hK (x_scr hX hbl hS) (x_recv (ci := 7) (q := (RX7, TX7, 13)) hK.1 hP (by omega) (by omega) rfl hF.1.obj)) rfl rfl hl.1 rfl (lv_room (Nat.le_of_ble_eq_true rfl)) dX7_found_174 ⟨by show cells + 0 ≤ 22; omega, by show slots + 0 ≤ 120; omega⟩) hS (fun H locs hP hS => ?_)
        refine x_gen hP (fun b1 eb1 hP => ?_)
        have hF : FW cy w A lo n t b T P n1 b1 A1 (dd + 1) wo1 wr1 j G1 := by rw [eb1]; exact hF.dr
        rw [(dw_tn (L := L) (xs := xs) (d := dd) (N := 16) (by omega) (by omega)).1]
        have htb1 := tn_lt (L := L) (xs := xs) (d := dd) (N := 16) (by omega) (by omega)
        refine x_szn hz (by omega) hP (fun hsz => ?_)
        have hT1 := hF.1
        refine x_callz (va_runV (As := [.int kd, .int (nI (tn L xs dd 16))]) (rest := []) ⟨hx, hb, hml, hown, hts⟩ (c_X7_well l D cy lo n1 b1 b L xs hbl A1 t (dd + 1) wo1 wr1 j G1 T P hF.1 hF.2.1 (by omega) kd hk1 hk2 (tn L xs dd 16) (by omega) ⟨(hF.2.2.1 j (Nat.le_refl j)).1, (hF.2.2.1 j (Nat.le_refl j)).2, (hfp j (by omega)).1, (hfp j (by omega)).2⟩) (cwV 2 hts gX7_found_X7_well rfl rfl rfl (by decide +kernel) ⟨Nat.le_of_ble_eq_true rfl, Nat.le_of_ble_eq_true rfl⟩) (preVZ hP hK (x_scr hX hbl hS) hsz (x_recv (ci := 7) (q := (RX7, TX7, 13)) hK.1 hP (by omega) (by omega) rfl hF.1.obj)) rfl rfl hl.1 rfl (lv_room (Nat.le_of_ble_eq_true rfl)) dX7_found_177 ⟨by show cells + 2 ≤ 22; omega, by show slots + 21 ≤ 120; omega⟩) hS (fun v9 n9 u9 H locs hX9 hP hz9 hS => ?_)
        obtain ⟨rfl, rfl, hT9, hF9⟩ := hX9
        have hF : FW cy w A lo n t b T P (n1 + 2) u9 (fun a => A1 a ∨ a = lo + n1 ∨ a = lo + n1 + 1) (dd + 1) (lo + n1) (fun i => if i = j then lo + n1 + 1 else wr1 i) (j + 1) (m_wellG G1 j (tn L xs dd 16) kd) := hF.st hT9 hF9 (fun a h => Or.inl h) (fun a h => h.elim Or.inl (fun q => Or.inr (by omega))) (by omega) (wellG_gi hF.2.1 (by omega) (by omega)) (fun i hi => by rw [wellG_k (by omega) (by omega), wellG_k (by omega) (by omega)]; exact hF.2.2.1 i (by omega))
        generalize hA2 : (fun a => A1 a ∨ a = lo + n1 ∨ a = lo + n1 + 1) = A2 at hF
        generalize hwr2 : (fun i => if i = j then lo + n1 + 1 else wr1 i) = wr2 at hF
        generalize hwo2 : lo + n1 = wo2 at hF
        have htb := hF.1.tb
        refine lv_if_eq (tgt := 199) hx hb dX7_found_180 (by decide) (fun h => absurd h (by decide)) (fun _ => ?_)
        refine lv_aload_n hx hb dX7_found_183 rfl (lv_at hl 1 rfl) ?_
        refine lv_iload_n hx hb dX7_found_184 rfl (lv_at hl 0 rfl) ?_
        refine lv_iconst (v := 2) hx hb dX7_found_185 (by decide) ?_
        refine lv_aload_n hx hb dX7_found_186 rfl (lv_at hl 1 rfl) ?_
        refine lv_bipush (v := 8) hx hb dX7_found_187 (by decide) ?_
        refine x_calli (va_runV (As := [.int (nI 8)]) (rest := [.int 2, .int (nI j), .ref t]) ⟨hx, hb, hml, hown, hts⟩ (c_X7_draw l D cy lo (n1 + 2) u9 b L xs hbl hL t (dd + 1) wo2 _ (by omega) (by omega) hF.1.obj (by omega) 8 (by omega) (by omega)) (cwV 1 hts gX7_found_X7_draw rfl rfl rfl (by decide +kernel) ⟨Nat.le_of_ble_eq_true rfl, Nat.le_of_ble_eq_true rfl⟩) (preVT hP hK (x_scr hX hbl hS) (x_recv (ci := 7) (q := (RX7, TX7, 13)) hK.1 hP (by omega) (by omega) rfl hF.1.obj)) rfl rfl hl.1 rfl (lv_room (Nat.le_of_ble_eq_true rfl)) dX7_found_189 ⟨by show cells + 2 + 0 ≤ 22; omega, by show slots + 21 + 0 ≤ 120; omega⟩) hS (fun H locs hP hS => ?_)
        refine x_gen hP (fun u10 e10 hP => ?_)
        have hF : FW cy w A lo n t b T P (n1 + 2) u10 A2 (dd + 2) wo2 wr2 (j + 1) (m_wellG G1 j (tn L xs dd 16) kd) := by rw [e10]; exact hF.dr
        rw [(dw_tn (L := L) (xs := xs) (d := dd + 1) (N := 8) (by omega) (by omega)).1]
        have ht8 := tn_lt (L := L) (xs := xs) (d := dd + 1) (N := 8) (by omega) (by omega)
        refine lv_iadd hx hb dX7_found_192 ?_
        rw [show (2 : Int32) + nI (tn L xs (dd + 1) 8) = nI (2 + tn L xs (dd + 1) 8) from nI_add 2 _]
        refine x_callx (va_runV (As := [.int (nI j), .int (nI (2 + tn L xs (dd + 1) 8))]) (rest := []) ⟨hx, hb, hml, hown, hts⟩ (c_X7_choke l D cy lo (n1 + 2) u10 b L xs A2 t (dd + 2) wo2 wr2 (j + 1) (m_wellG G1 j (tn L xs dd 16) kd) T P hF.1 hF.2.1 j (by omega) (nI (2 + tn L xs (dd + 1) 8)) ((nI_leI (a := 0) (b := 2 + tn L xs (dd + 1) 8) (by omega) (by omega)).mpr (by omega)) ((nI_leI (a := 2 + tn L xs (dd + 1) 8) (b := 9) (by omega) (by omega)).mpr (by omega)) (hfp j (by omega)).1) (cwV 2 hts gX7_found_X7_choke rfl rfl rfl (by decide +kernel) ⟨Nat.le_of_ble_eq_true rfl, Nat.le_of_ble_eq_true rfl⟩) (preVT hP hK (x_scr hX hbl hS) (x_recv (ci := 7) (q := (RX7, TX7, 13)) hK.1 hP (by omega) (by omega) rfl hF.1.obj)) rfl rfl hl.1 rfl (lv_room (Nat.le_of_ble_eq_true rfl)) dX7_found_193 ⟨by show cells + 2 + 0 + 0 ≤ 22; omega, by show slots + 21 + 0 + 0 ≤ 120; omega⟩) hS (fun v11 u11 H locs hX11 hP hS => ?_)
        obtain ⟨rfl, hT11, hF11⟩ := hX11
        have hF : FW cy w A lo n t b T P (n1 + 2) u11 A2 (dd + 2) wo2 wr2 (j + 1) (u2 (m_wellG G1 j (tn L xs dd 16) kd) (37 + 2 * j) 2 (nI (2 + tn L xs (dd + 1) 8))) := hF.st hT11 hF11 (fun _ q => q) (fun _ q => Or.inl q) (Nat.le_refl _) (hF.2.1.u (by omega)) (fun i hi => by rw [u2_ne (by omega), u2_ne (by omega)]; exact hF.2.2.1 i hi)
        refine lv_if_ne (tgt := 201) hx hb dX7_found_196 (by decide) (fun _ => ?_) (fun h => absurd h (by decide))
        refine lv_iinc (v := (nI (j + 1))) (lv' := [(2, .int (nI (j + 1))), (0, .ref t), (1, .int 3)]) hx hb dX7_found_201 hl (k := 0) rfl (nI_1 _) (by decide) rfl (fun ls hl => ?_)
        refine lv_goto (tgt := 137) hx hb dX7_found_204 (by decide) ?_
        exact ih (j + 1) H locs ls _ _ _ _ _ _ _ _ _ (by omega) hl hF hq (by omega) (by omega) (by omega) (by omega) hP hS
      refine lv_iload_n hx hb dX7_found_137 rfl (lv_at hl 0 rfl) ?_
      refine lv_iload_n hx hb dX7_found_138 rfl (lv_at hl 2 rfl) ?_
      refine lv_icmp_ge (tgt := 207) hx hb dX7_found_139 (by decide) (fun c9 => absurd ((nI_leI (a := 3) (b := j) (by omega) (by omega)).mp c9) (by omega)) (fun _ => ?_)
      refine lv_aload_n hx hb dX7_found_142 rfl (lv_at hl 1 rfl) ?_
      refine lv_iload_n hx hb dX7_found_143 rfl (lv_at hl 0 rfl) ?_
      have hqs : fo (m_wlS L xs) (j + 1) (fo (m_fltS L xs) 5 (fo (m_layS L xs) 16 (G, d))) = m_wlS L xs j (G1, d1) := by rw [hq]; rfl
      by_cases hj0 : j = 0
      · refine lv_if_ne (tgt := 151) hx hb dX7_found_144 (by decide) (fun c9 => absurd (show nI j = 0 by rw [hj0]; rfl) c9) (fun _ => ?_)
        refine lv_iconst (v := 0) hx hb dX7_found_147 (by decide) ?_
        refine lv_goto (tgt := 171) hx hb dX7_found_148 (by decide) ?_
        exact k171 0 d1 u H locs (by decide) (by decide) hF (by rw [hqs]; simp only [m_wlS]; rw [if_pos hj0]) (by omega) hP hS
      · refine lv_if_ne (tgt := 151) hx hb dX7_found_144 (by decide) (fun _ => ?_) (fun c9 => absurd ((nI_eq (a := j) (b := 0) (by omega) (by omega)).mp c9) hj0)
        refine lv_aload_n hx hb dX7_found_151 rfl (lv_at hl 1 rfl) ?_
        refine lv_iconst (v := 5) hx hb dX7_found_152 (by decide) ?_
        refine x_calli (va_runV (As := [.int (nI 5)]) (rest := [.ref t]) ⟨hx, hb, hml, hown, hts⟩ (c_X7_draw l D cy lo n1 u b L xs hbl hL t (d1) wo1 _ (by omega) (by omega) hF.1.obj (by omega) 5 (by omega) (by omega)) (cwV 1 hts gX7_found_X7_draw rfl rfl rfl (by decide +kernel) ⟨Nat.le_of_ble_eq_true rfl, Nat.le_of_ble_eq_true rfl⟩) (preVT hP hK (x_scr hX hbl hS) (x_recv (ci := 7) (q := (RX7, TX7, 13)) hK.1 hP (by omega) (by omega) rfl hF.1.obj)) rfl rfl hl.1 rfl (lv_room (Nat.le_of_ble_eq_true rfl)) dX7_found_153 ⟨by show cells + 0 ≤ 22; omega, by show slots + 0 ≤ 120; omega⟩) hS (fun H locs hP hS => ?_)
        refine x_gen hP (fun c1 ec1 hP => ?_)
        have hF : FW cy w A lo n t b T P n1 c1 A1 (d1 + 1) wo1 wr1 j G1 := by rw [ec1]; exact hF.dr
        rw [(dw_tn (L := L) (xs := xs) (d := d1) (N := 5) (by omega) (by omega)).1]
        have htc1 := tn_lt (L := L) (xs := xs) (d := d1) (N := 5) (by omega) (by omega)
        refine lv_iconst (v := 3) hx hb dX7_found_156 (by decide) ?_
        by_cases h3 : tn L xs d1 5 < 3
        · refine lv_icmp_ge (tgt := 164) hx hb dX7_found_157 (by decide) (fun c9 => absurd ((nI_leI (a := 3) (b := tn L xs d1 5) (by omega) (by omega)).mp c9) (by omega)) (fun _ => ?_)
          refine lv_iconst (v := 0) hx hb dX7_found_160 (by decide) ?_
          refine lv_goto (tgt := 171) hx hb dX7_found_161 (by decide) ?_
          exact k171 0 (d1 + 1) c1 H locs (by decide) (by decide) hF (by rw [hqs]; simp only [m_wlS]; rw [if_neg hj0, if_pos h3]) (by omega) hP hS
        · refine lv_icmp_ge (tgt := 164) hx hb dX7_found_157 (by decide) (fun _ => ?_) (fun c9 => absurd ((nI_leI (a := 3) (b := tn L xs d1 5) (by omega) (by omega)).mpr (by omega)) c9)
          refine lv_iconst (v := 1) hx hb dX7_found_164 (by decide) ?_
          refine lv_aload_n hx hb dX7_found_165 rfl (lv_at hl 1 rfl) ?_
          refine lv_iconst (v := 2) hx hb dX7_found_166 (by decide) ?_
          refine x_calli (va_runV (As := [.int (nI 2)]) (rest := [.int 1, .ref t]) ⟨hx, hb, hml, hown, hts⟩ (c_X7_draw l D cy lo n1 c1 b L xs hbl hL t (d1 + 1) wo1 _ (by omega) (by omega) hF.1.obj (by omega) 2 (by omega) (by omega)) (cwV 1 hts gX7_found_X7_draw rfl rfl rfl (by decide +kernel) ⟨Nat.le_of_ble_eq_true rfl, Nat.le_of_ble_eq_true rfl⟩) (preVT hP hK (x_scr hX hbl hS) (x_recv (ci := 7) (q := (RX7, TX7, 13)) hK.1 hP (by omega) (by omega) rfl hF.1.obj)) rfl rfl hl.1 rfl (lv_room (Nat.le_of_ble_eq_true rfl)) dX7_found_167 ⟨by show cells + 0 ≤ 22; omega, by show slots + 0 ≤ 120; omega⟩) hS (fun H locs hP hS => ?_)
          refine x_gen hP (fun dq1 edq1 hP => ?_)
          have hF : FW cy w A lo n t b T P n1 dq1 A1 (d1 + 2) wo1 wr1 j G1 := by rw [edq1]; exact hF.dr
          rw [(dw_tn (L := L) (xs := xs) (d := d1 + 1) (N := 2) (by omega) (by omega)).1]
          have htdq1 := tn_lt (L := L) (xs := xs) (d := d1 + 1) (N := 2) (by omega) (by omega)
          refine lv_iadd hx hb dX7_found_170 ?_
          rw [show (1 : Int32) + nI (tn L xs (d1 + 1) 2) = nI (1 + tn L xs (d1 + 1) 2) from nI_add 1 _]
          exact k171 (nI (1 + tn L xs (d1 + 1) 2)) (d1 + 2) dq1 H locs ((nI_leI (a := 0) (b := 1 + tn L xs (d1 + 1) 2) (by omega) (by omega)).mpr (by omega)) ((nI_leI (a := 1 + tn L xs (d1 + 1) 2) (b := 2) (by omega) (by omega)).mpr (by omega)) hF (by rw [hqs]; simp only [m_wlS]; rw [if_neg hj0, if_neg h3]) (by omega) hP hS
  have key2 : ∀ (k j : Nat) (H : Heap) (locs : List Loc) (ls : Array Slot) (n1 : Nat) (u : Nat → va_E) (A1 : Nat → Prop) (d1 wo1 : Nat) (wr1 : Nat → Nat) (G1 : Mem) (cells slots : Nat), j + k = 5 → lv_has ls 3 [(2, .int (nI j)), (0, .ref t), (1, .int 3)] → FW cy w A lo n t b T P n1 u A1 d1 wo1 wr1 0 G1 → (G1, d1) = fo (m_fltS L xs) j (fo (m_layS L xs) 16 (G, d)) → d1 ≤ d + 80 + 5 * j → n1 ≤ n + 16 → slots ≤ 48 → s.heap.size + cells = lo + n1 → va_P D vwCl (rl lo n1 u) H → va_S (fun q : Nat => lo ≤ q) s.heap H locs → W p l e ({ frames := 4, cells := 22, slots := 120, locals := 104 } : Room) s m (([.ref t, .int 3] : List Value).toArray) below meth c H locs cells slots (MQ below ((QzT D lo (fun v n1 u => v = 1 ∧ n1 ≤ n + 22 ∧ ∃ (A1 : Nat → Prop) (wo1 : Nat) (wr1 : Nat → Nat), FW cy w A lo n t b T P n1 u A1 (m_found L xs d G).2 wo1 wr1 3 (m_found L xs d G).1))) (([.ref t, .int 3] : List Value).toArray) s 22 120 (fun q : Nat => lo ≤ q)) (F0 m 61 ls []) := by
    intro k
    induction k with
    | zero =>
      intro j H locs ls n1 u A1 d1 wo1 wr1 G1 cells slots hj hl hF hq hd1 hn1 hsl hz hP hS
      have hj : j = 5 := by omega
      subst hj
      refine lv_iload_n hx hb dX7_found_61 rfl (lv_at hl 0 rfl) ?_
      refine lv_iconst (v := 5) hx hb dX7_found_62 (by decide) ?_
      refine lv_icmp_ge (tgt := 135) hx hb dX7_found_63 (by decide) (fun _ => ?_) (fun c9 => absurd (show nI 5 ≤ nI 5 by decide) c9)
      refine lv_iconst (v := 0) hx hb dX7_found_135 (by decide) ?_
      refine lv_istore_n (lv' := [(2, .int (0 : Int32)), (0, .ref t), (1, .int 3)]) hx hb dX7_found_136 rfl hl (by decide) rfl (fun ls hl => ?_)
      exact key3 3 0 H locs ls _ _ _ _ _ _ _ _ _ (by omega) hl hF hq (by omega) (by omega) (by omega) hz hP hS
    | succ k ih =>
      intro j H locs ls n1 u A1 d1 wo1 wr1 G1 cells slots hj hl hF hq hd1 hn1 hsl hz hP hS
      have htb := hF.1.tb
      refine lv_iload_n hx hb dX7_found_61 rfl (lv_at hl 0 rfl) ?_
      refine lv_iconst (v := 5) hx hb dX7_found_62 (by decide) ?_
      refine lv_icmp_ge (tgt := 135) hx hb dX7_found_63 (by decide) (fun c9 => absurd ((nI_leI (a := 5) (b := j) (by omega) (by omega)).mp c9) (by omega)) (fun _ => ?_)
      refine lv_aload_n hx hb dX7_found_66 rfl (lv_at hl 1 rfl) ?_
      refine lv_aload_n hx hb dX7_found_67 rfl (lv_at hl 1 rfl) ?_
      refine lv_iconst (v := 3) hx hb dX7_found_68 (by decide) ?_
      refine x_calli (va_runV (As := [.int (nI 3)]) (rest := [.ref t]) ⟨hx, hb, hml, hown, hts⟩ (c_X7_draw l D cy lo n1 u b L xs hbl hL t (d1) wo1 _ (by omega) (by omega) hF.1.obj (by omega) 3 (by omega) (by omega)) (cwV 1 hts gX7_found_X7_draw rfl rfl rfl (by decide +kernel) ⟨Nat.le_of_ble_eq_true rfl, Nat.le_of_ble_eq_true rfl⟩) (preVT hP hK (x_scr hX hbl hS) (x_recv (ci := 7) (q := (RX7, TX7, 13)) hK.1 hP (by omega) (by omega) rfl hF.1.obj)) rfl rfl hl.1 rfl (lv_room (Nat.le_of_ble_eq_true rfl)) dX7_found_69 ⟨by show cells + 0 ≤ 22; omega, by show slots + 0 ≤ 120; omega⟩) hS (fun H locs hP hS => ?_)
      refine x_gen hP (fun a1 ea1 hP => ?_)
      have hF : FW cy w A lo n t b T P n1 a1 A1 (d1 + 1) wo1 wr1 0 G1 := by rw [ea1]; exact hF.dr
      rw [(dw_tn (L := L) (xs := xs) (d := d1) (N := 3) (by omega) (by omega)).1]
      have hta1 := tn_lt (L := L) (xs := xs) (d := d1) (N := 3) (by omega) (by omega)
      refine lv_iconst (v := 4) hx hb dX7_found_72 (by decide) ?_
      refine lv_aload_n hx hb dX7_found_73 rfl (lv_at hl 1 rfl) ?_
      refine lv_iconst (v := 4) hx hb dX7_found_74 (by decide) ?_
      refine x_calli (va_runV (As := [.int (nI 4)]) (rest := [.int 4, .int (nI (tn L xs d1 3)), .ref t]) ⟨hx, hb, hml, hown, hts⟩ (c_X7_draw l D cy lo n1 a1 b L xs hbl hL t (d1 + 1) wo1 _ (by omega) (by omega) hF.1.obj (by omega) 4 (by omega) (by omega)) (cwV 1 hts gX7_found_X7_draw rfl rfl rfl (by decide +kernel) ⟨Nat.le_of_ble_eq_true rfl, Nat.le_of_ble_eq_true rfl⟩) (preVT hP hK (x_scr hX hbl hS) (x_recv (ci := 7) (q := (RX7, TX7, 13)) hK.1 hP (by omega) (by omega) rfl hF.1.obj)) rfl rfl hl.1 rfl (lv_room (Nat.le_of_ble_eq_true rfl)) dX7_found_75 ⟨by show cells + 0 ≤ 22; omega, by show slots + 0 ≤ 120; omega⟩) hS (fun H locs hP hS => ?_)
      refine x_gen hP (fun a2 ea2 hP => ?_)
      have hF : FW cy w A lo n t b T P n1 a2 A1 (d1 + 2) wo1 wr1 0 G1 := by rw [ea2]; exact hF.dr
      rw [(dw_tn (L := L) (xs := xs) (d := d1 + 1) (N := 4) (by omega) (by omega)).1]
      have hta2 := tn_lt (L := L) (xs := xs) (d := d1 + 1) (N := 4) (by omega) (by omega)
      refine lv_imul hx hb dX7_found_78 ?_
      refine lv_iadd hx hb dX7_found_79 ?_
      have ece : nI (tn L xs d1 3) + 4 * nI (tn L xs (d1 + 1) 4) = nI (tn L xs d1 3 + 4 * tn L xs (d1 + 1) 4) := by
        have k : ∀ f, f < 3 → ∀ c, c < 4 → nI f + 4 * nI c = nI (f + 4 * c) := by decide +kernel
        exact k _ hta1 _ hta2
      rw [ece]
      refine lv_iconst (v := 1) hx hb dX7_found_80 (by decide) ?_
      refine lv_aload_n hx hb dX7_found_81 rfl (lv_at hl 1 rfl) ?_
      refine lv_iconst (v := 3) hx hb dX7_found_82 (by decide) ?_
      refine x_calli (va_runV (As := [.int (nI 3)]) (rest := [.int 1, .int (nI (tn L xs d1 3 + 4 * tn L xs (d1 + 1) 4)), .ref t]) ⟨hx, hb, hml, hown, hts⟩ (c_X7_draw l D cy lo n1 a2 b L xs hbl hL t (d1 + 2) wo1 _ (by omega) (by omega) hF.1.obj (by omega) 3 (by omega) (by omega)) (cwV 1 hts gX7_found_X7_draw rfl rfl rfl (by decide +kernel) ⟨Nat.le_of_ble_eq_true rfl, Nat.le_of_ble_eq_true rfl⟩) (preVT hP hK (x_scr hX hbl hS) (x_recv (ci := 7) (q := (RX7, TX7, 13)) hK.1 hP (by omega) (by omega) rfl hF.1.obj)) rfl rfl hl.1 rfl (lv_room (Nat.le_of_ble_eq_true rfl)) dX7_found_83 ⟨by show cells + 0 ≤ 22; omega, by show slots + 0 ≤ 120; omega⟩) hS (fun H locs hP hS => ?_)
      refine x_gen hP (fun a3 ea3 hP => ?_)
      have hF : FW cy w A lo n t b T P n1 a3 A1 (d1 + 3) wo1 wr1 0 G1 := by rw [ea3]; exact hF.dr
      rw [(dw_tn (L := L) (xs := xs) (d := d1 + 2) (N := 3) (by omega) (by omega)).1]
      have hta3 := tn_lt (L := L) (xs := xs) (d := d1 + 2) (N := 3) (by omega) (by omega)
      have k94 : W p l e ({ frames := 4, cells := 22, slots := 120, locals := 104 } : Room) s m (([.ref t, .int 3] : List Value).toArray) below meth c H locs cells slots (MQ below ((QzT D lo (fun v n1 u => v = 1 ∧ n1 ≤ n + 22 ∧ ∃ (A1 : Nat → Prop) (wo1 : Nat) (wr1 : Nat → Nat), FW cy w A lo n t b T P n1 u A1 (m_found L xs d G).2 wo1 wr1 3 (m_found L xs d G).1))) (([.ref t, .int 3] : List Value).toArray) s 22 120 (fun q : Nat => lo ≤ q)) (F0 m 94 ls [.int (zt (tn L xs (d1 + 2) 3)), .int 1, .int (nI (tn L xs d1 3 + 4 * tn L xs (d1 + 1) 4)), .ref t]) := by
        refine x_callx (va_runV (As := [.int (nI (tn L xs d1 3 + 4 * tn L xs (d1 + 1) 4)), .int 1, .int (zt (tn L xs (d1 + 2) 3))]) (rest := []) ⟨hx, hb, hml, hown, hts⟩ (c_X7_fault_1 l D cy lo n1 a3 b L xs A1 t (d1 + 3) wo1 wr1 0 G1 T P hF.1 hF.2.1 (tn L xs d1 3 + 4 * tn L xs (d1 + 1) 4) (by omega) (zt (tn L xs (d1 + 2) 3)) zt_01 (nb_e hta1 hta2)) (cwV 3 hts gX7_found_X7_fault rfl rfl rfl (by decide +kernel) ⟨Nat.le_of_ble_eq_true rfl, Nat.le_of_ble_eq_true rfl⟩) (preVT hP hK (x_scr hX hbl hS) (x_recv (ci := 7) (q := (RX7, TX7, 13)) hK.1 hP (by omega) (by omega) rfl hF.1.obj)) rfl rfl hl.1 rfl (lv_room (Nat.le_of_ble_eq_true rfl)) dX7_found_94 ⟨by show cells + 0 ≤ 22; omega, by show slots + 0 ≤ 120; omega⟩) hS (fun vg1 g1 H locs hX9 hP hS => ?_)
        obtain ⟨rfl, hT9, hF9⟩ := hX9
        have hF : FW cy w A lo n t b T P n1 g1 A1 (d1 + 3) wo1 wr1 0 (m_shut G1 (tn L xs d1 3 + 4 * tn L xs (d1 + 1) 4) 1 (zt (tn L xs (d1 + 2) 3))) := hF.st hT9 hF9 (fun _ q => q) (fun _ q => Or.inl q) (Nat.le_refl _) (hF.2.1.shut (by omega) zt_01) (fun i hi => ⟨(shut_k (by omega)).trans (hF.2.2.1 i hi).1, (shut_k (by omega)).trans (hF.2.2.1 i hi).2⟩)
        refine lv_if_eq (tgt := 127) hx hb dX7_found_97 (by decide) (fun h => absurd h (by decide)) (fun _ => ?_)
        refine lv_aload_n hx hb dX7_found_100 rfl (lv_at hl 1 rfl) ?_
        refine lv_aload_n hx hb dX7_found_101 rfl (lv_at hl 1 rfl) ?_
        refine lv_bipush (v := 12) hx hb dX7_found_102 (by decide) ?_
        refine x_calli (va_runV (As := [.int (nI 12)]) (rest := [.ref t]) ⟨hx, hb, hml, hown, hts⟩ (c_X7_draw l D cy lo n1 g1 b L xs hbl hL t (d1 + 3) wo1 _ (by omega) (by omega) hF.1.obj (by omega) 12 (by omega) (by omega)) (cwV 1 hts gX7_found_X7_draw rfl rfl rfl (by decide +kernel) ⟨Nat.le_of_ble_eq_true rfl, Nat.le_of_ble_eq_true rfl⟩) (preVT hP hK (x_scr hX hbl hS) (x_recv (ci := 7) (q := (RX7, TX7, 13)) hK.1 hP (by omega) (by omega) rfl hF.1.obj)) rfl rfl hl.1 rfl (lv_room (Nat.le_of_ble_eq_true rfl)) dX7_found_104 ⟨by show cells + 0 ≤ 22; omega, by show slots + 0 ≤ 120; omega⟩) hS (fun H locs hP hS => ?_)
        refine x_gen hP (fun f1 ef1 hP => ?_)
        have hF : FW cy w A lo n t b T P n1 f1 A1 (d1 + 4) wo1 wr1 0 (m_shut G1 (tn L xs d1 3 + 4 * tn L xs (d1 + 1) 4) 1 (zt (tn L xs (d1 + 2) 3))) := by rw [ef1]; exact hF.dr
        rw [(dw_tn (L := L) (xs := xs) (d := d1 + 3) (N := 12) (by omega) (by omega)).1]
        have htf1 := tn_lt (L := L) (xs := xs) (d := d1 + 3) (N := 12) (by omega) (by omega)
        refine lv_iconst (v := 0) hx hb dX7_found_107 (by decide) ?_
        refine lv_aload_n hx hb dX7_found_108 rfl (lv_at hl 1 rfl) ?_
        refine lv_iconst (v := 3) hx hb dX7_found_109 (by decide) ?_
        refine x_calli (va_runV (As := [.int (nI 3)]) (rest := [.int 0, .int (nI (tn L xs (d1 + 3) 12)), .ref t]) ⟨hx, hb, hml, hown, hts⟩ (c_X7_draw l D cy lo n1 f1 b L xs hbl hL t (d1 + 4) wo1 _ (by omega) (by omega) hF.1.obj (by omega) 3 (by omega) (by omega)) (cwV 1 hts gX7_found_X7_draw rfl rfl rfl (by decide +kernel) ⟨Nat.le_of_ble_eq_true rfl, Nat.le_of_ble_eq_true rfl⟩) (preVT hP hK (x_scr hX hbl hS) (x_recv (ci := 7) (q := (RX7, TX7, 13)) hK.1 hP (by omega) (by omega) rfl hF.1.obj)) rfl rfl hl.1 rfl (lv_room (Nat.le_of_ble_eq_true rfl)) dX7_found_110 ⟨by show cells + 0 ≤ 22; omega, by show slots + 0 ≤ 120; omega⟩) hS (fun H locs hP hS => ?_)
        refine x_gen hP (fun f2 ef2 hP => ?_)
        have hF : FW cy w A lo n t b T P n1 f2 A1 (d1 + 5) wo1 wr1 0 (m_shut G1 (tn L xs d1 3 + 4 * tn L xs (d1 + 1) 4) 1 (zt (tn L xs (d1 + 2) 3))) := by rw [ef2]; exact hF.dr
        rw [(dw_tn (L := L) (xs := xs) (d := d1 + 4) (N := 3) (by omega) (by omega)).1]
        have htf2 := tn_lt (L := L) (xs := xs) (d := d1 + 4) (N := 3) (by omega) (by omega)
        have k121 : W p l e ({ frames := 4, cells := 22, slots := 120, locals := 104 } : Room) s m (([.ref t, .int 3] : List Value).toArray) below meth c H locs cells slots (MQ below ((QzT D lo (fun v n1 u => v = 1 ∧ n1 ≤ n + 22 ∧ ∃ (A1 : Nat → Prop) (wo1 : Nat) (wr1 : Nat → Nat), FW cy w A lo n t b T P n1 u A1 (m_found L xs d G).2 wo1 wr1 3 (m_found L xs d G).1))) (([.ref t, .int 3] : List Value).toArray) s 22 120 (fun q : Nat => lo ≤ q)) (F0 m 121 ls [.int (zt (tn L xs (d1 + 4) 3)), .int 0, .int (nI (tn L xs (d1 + 3) 12)), .ref t]) := by
          refine x_callx (va_runV (As := [.int (nI (tn L xs (d1 + 3) 12)), .int 0, .int (zt (tn L xs (d1 + 4) 3))]) (rest := []) ⟨hx, hb, hml, hown, hts⟩ (c_X7_fault_0 l D cy lo n1 f2 b L xs A1 t (d1 + 5) wo1 wr1 0 (m_shut G1 (tn L xs d1 3 + 4 * tn L xs (d1 + 1) 4) 1 (zt (tn L xs (d1 + 2) 3))) T P hF.1 hF.2.1 (tn L xs (d1 + 3) 12) (by omega) (zt (tn L xs (d1 + 4) 3)) zt_01 (nb_s htf1)) (cwV 3 hts gX7_found_X7_fault rfl rfl rfl (by decide +kernel) ⟨Nat.le_of_ble_eq_true rfl, Nat.le_of_ble_eq_true rfl⟩) (preVT hP hK (x_scr hX hbl hS) (x_recv (ci := 7) (q := (RX7, TX7, 13)) hK.1 hP (by omega) (by omega) rfl hF.1.obj)) rfl rfl hl.1 rfl (lv_room (Nat.le_of_ble_eq_true rfl)) dX7_found_121 ⟨by show cells + 0 ≤ 22; omega, by show slots + 0 ≤ 120; omega⟩) hS (fun vg2 g2 H locs hX9 hP hS => ?_)
          obtain ⟨rfl, hT9, hF9⟩ := hX9
          have hF : FW cy w A lo n t b T P n1 g2 A1 (d1 + 5) wo1 wr1 0 (m_shut (m_shut G1 (tn L xs d1 3 + 4 * tn L xs (d1 + 1) 4) 1 (zt (tn L xs (d1 + 2) 3))) (tn L xs (d1 + 3) 12) 0 (zt (tn L xs (d1 + 4) 3))) := hF.st hT9 hF9 (fun _ q => q) (fun _ q => Or.inl q) (Nat.le_refl _) (hF.2.1.shut (by omega) zt_01) (fun i hi => ⟨(shut_k (by omega)).trans (hF.2.2.1 i hi).1, (shut_k (by omega)).trans (hF.2.2.1 i hi).2⟩)
          refine lv_if_ne (tgt := 129) hx hb dX7_found_124 (by decide) (fun _ => ?_) (fun h => absurd h (by decide))
          refine lv_iinc (v := (nI (j + 1))) (lv' := [(2, .int (nI (j + 1))), (0, .ref t), (1, .int 3)]) hx hb dX7_found_129 hl (k := 0) rfl (nI_1 _) (by decide) rfl (fun ls hl => ?_)
          refine lv_goto (tgt := 61) hx hb dX7_found_132 (by decide) ?_
          have hq2 : (m_shut (m_shut G1 (tn L xs d1 3 + 4 * tn L xs (d1 + 1) 4) 1 (zt (tn L xs (d1 + 2) 3))) (tn L xs (d1 + 3) 12) 0 (zt (tn L xs (d1 + 4) 3)), d1 + 5) = fo (m_fltS L xs) (j + 1) (fo (m_layS L xs) 16 (G, d)) := by
            show _ = m_fltS L xs j (fo (m_fltS L xs) j (fo (m_layS L xs) 16 (G, d)))
            rw [← hq]
            rfl
          exact ih (j + 1) H locs ls _ _ _ _ _ _ _ _ _ (by omega) hl hF hq2 (by omega) (by omega) (by omega) hz hP hS
        by_cases h0 : tn L xs (d1 + 4) 3 = 0
        · have ez : zt (tn L xs (d1 + 4) 3) = 0 := if_pos h0
          rw [ez] at k121
          refine lv_if_le (tgt := 120) hx hb dX7_found_113 (by decide) (fun _ => ?_) (fun c9 => absurd (show nI (tn L xs (d1 + 4) 3) ≤ 0 by rw [h0]; decide) c9)
          refine lv_iconst (v := 0) hx hb dX7_found_120 (by decide) ?_
          exact k121
        · have ez : zt (tn L xs (d1 + 4) 3) = 1 := if_neg h0
          rw [ez] at k121
          refine lv_if_le (tgt := 120) hx hb dX7_found_113 (by decide) (fun c9 => absurd ((nI_leI (a := tn L xs (d1 + 4) 3) (b := 0) (by omega) (by omega)).mp c9) (by omega)) (fun _ => ?_)
          refine lv_iconst (v := 1) hx hb dX7_found_116 (by decide) ?_
          refine lv_goto (tgt := 121) hx hb dX7_found_117 (by decide) ?_
          exact k121
      by_cases h0 : tn L xs (d1 + 2) 3 = 0
      · have ez : zt (tn L xs (d1 + 2) 3) = 0 := if_pos h0
        rw [ez] at k94
        refine lv_if_le (tgt := 93) hx hb dX7_found_86 (by decide) (fun _ => ?_) (fun c9 => absurd (show nI (tn L xs (d1 + 2) 3) ≤ 0 by rw [h0]; decide) c9)
        refine lv_iconst (v := 0) hx hb dX7_found_93 (by decide) ?_
        exact k94
      · have ez : zt (tn L xs (d1 + 2) 3) = 1 := if_neg h0
        rw [ez] at k94
        refine lv_if_le (tgt := 93) hx hb dX7_found_86 (by decide) (fun c9 => absurd ((nI_leI (a := tn L xs (d1 + 2) 3) (b := 0) (by omega) (by omega)).mp c9) (by omega)) (fun _ => ?_)
        refine lv_iconst (v := 1) hx hb dX7_found_89 (by decide) ?_
        refine lv_goto (tgt := 94) hx hb dX7_found_90 (by decide) ?_
        exact k94
  have key1 : ∀ (k j : Nat) (H : Heap) (locs : List Loc) (ls : Array Slot) (n1 : Nat) (u : Nat → va_E) (A1 : Nat → Prop) (d1 wo1 : Nat) (wr1 : Nat → Nat) (G1 : Mem) (cells slots : Nat), j + k = 16 → lv_has ls 3 [(2, .int (nI j)), (0, .ref t), (1, .int 3)] → FW cy w A lo n t b T P n1 u A1 d1 wo1 wr1 0 G1 → (G1, d1) = fo (m_layS L xs) j (G, d) → d1 ≤ d + 5 * j → n1 ≤ n + j → slots ≤ 3 * j → s.heap.size + cells = lo + n1 → va_P D vwCl (rl lo n1 u) H → va_S (fun q : Nat => lo ≤ q) s.heap H locs → W p l e ({ frames := 4, cells := 22, slots := 120, locals := 104 } : Room) s m (([.ref t, .int 3] : List Value).toArray) below meth c H locs cells slots (MQ below ((QzT D lo (fun v n1 u => v = 1 ∧ n1 ≤ n + 22 ∧ ∃ (A1 : Nat → Prop) (wo1 : Nat) (wr1 : Nat → Nat), FW cy w A lo n t b T P n1 u A1 (m_found L xs d G).2 wo1 wr1 3 (m_found L xs d G).1))) (([.ref t, .int 3] : List Value).toArray) s 22 120 (fun q : Nat => lo ≤ q)) (F0 m 2 ls []) := by
    intro k
    induction k with
    | zero =>
      intro j H locs ls n1 u A1 d1 wo1 wr1 G1 cells slots hj hl hF hq hd1 hn1 hsl hz hP hS
      have hj : j = 16 := by omega
      subst hj
      refine lv_iload_n hx hb dX7_found_2 rfl (lv_at hl 0 rfl) ?_
      refine lv_bipush (v := 16) hx hb dX7_found_3 (by decide) ?_
      refine lv_icmp_ge (tgt := 59) hx hb dX7_found_5 (by decide) (fun _ => ?_) (fun c9 => absurd (show nI 16 ≤ nI 16 by decide) c9)
      refine lv_iconst (v := 0) hx hb dX7_found_59 (by decide) ?_
      refine lv_istore_n (lv' := [(2, .int (0 : Int32)), (0, .ref t), (1, .int 3)]) hx hb dX7_found_60 rfl hl (by decide) rfl (fun ls hl => ?_)
      exact key2 5 0 H locs ls _ _ _ _ _ _ _ _ _ (by omega) hl hF hq (by omega) (by omega) (by omega) hz hP hS
    | succ k ih =>
      intro j H locs ls n1 u A1 d1 wo1 wr1 G1 cells slots hj hl hF hq hd1 hn1 hsl hz hP hS
      have htb := hF.1.tb
      refine lv_iload_n hx hb dX7_found_2 rfl (lv_at hl 0 rfl) ?_
      refine lv_bipush (v := 16) hx hb dX7_found_3 (by decide) ?_
      refine lv_icmp_ge (tgt := 59) hx hb dX7_found_5 (by decide) (fun c9 => absurd ((nI_leI (a := 16) (b := j) (by omega) (by omega)).mp c9) (by omega)) (fun _ => ?_)
      refine lv_aload_n hx hb dX7_found_8 rfl (lv_at hl 1 rfl) ?_
      refine lv_iconst (v := 3) hx hb dX7_found_9 (by decide) ?_
      refine x_calli (va_runV (As := [.int (nI 3)]) (rest := []) ⟨hx, hb, hml, hown, hts⟩ (c_X7_draw l D cy lo n1 u b L xs hbl hL t (d1) wo1 _ (by omega) (by omega) hF.1.obj (by omega) 3 (by omega) (by omega)) (cwV 1 hts gX7_found_X7_draw rfl rfl rfl (by decide +kernel) ⟨Nat.le_of_ble_eq_true rfl, Nat.le_of_ble_eq_true rfl⟩) (preVT hP hK (x_scr hX hbl hS) (x_recv (ci := 7) (q := (RX7, TX7, 13)) hK.1 hP (by omega) (by omega) rfl hF.1.obj)) rfl rfl hl.1 rfl (lv_room (Nat.le_of_ble_eq_true rfl)) dX7_found_10 ⟨by show cells + 0 ≤ 22; omega, by show slots + 0 ≤ 120; omega⟩) hS (fun H locs hP hS => ?_)
      refine x_gen hP (fun a1 ea1 hP => ?_)
      have hF : FW cy w A lo n t b T P n1 a1 A1 (d1 + 1) wo1 wr1 0 G1 := by rw [ea1]; exact hF.dr
      rw [(dw_tn (L := L) (xs := xs) (d := d1) (N := 3) (by omega) (by omega)).1]
      have hta1 := tn_lt (L := L) (xs := xs) (d := d1) (N := 3) (by omega) (by omega)
      have hqs : fo (m_layS L xs) (j + 1) (G, d) = m_layS L xs j (G1, d1) := by rw [hq]; rfl
      by_cases h0 : tn L xs d1 3 = 0
      · refine lv_if_le (tgt := 53) hx hb dX7_found_13 (by decide) (fun _ => ?_) (fun c9 => absurd (show nI (tn L xs d1 3) ≤ 0 by rw [h0]; decide) c9)
        refine lv_iinc (v := (nI (j + 1))) (lv' := [(2, .int (nI (j + 1))), (0, .ref t), (1, .int 3)]) hx hb dX7_found_53 hl (k := 0) rfl (nI_1 _) (by decide) rfl (fun ls hl => ?_)
        refine lv_goto (tgt := 2) hx hb dX7_found_56 (by decide) ?_
        exact ih (j + 1) H locs ls _ _ _ _ _ _ _ _ _ (by omega) hl hF (by rw [hqs]; simp only [m_layS]; rw [if_pos h0]) (by omega) (by omega) (by omega) hz hP hS
      · refine lv_if_le (tgt := 53) hx hb dX7_found_13 (by decide) (fun c9 => absurd ((nI_leI (a := tn L xs d1 3) (b := 0) (by omega) (by omega)).mp c9) (by omega)) (fun _ => ?_)
        refine lv_aload_n hx hb dX7_found_16 rfl (lv_at hl 1 rfl) ?_
        refine lv_iload_n hx hb dX7_found_17 rfl (lv_at hl 0 rfl) ?_
        refine lv_bipush (v := 15) hx hb dX7_found_18 (by decide) ?_
        refine lv_aload_n hx hb dX7_found_20 rfl (lv_at hl 1 rfl) ?_
        refine lv_bipush (v := 60) hx hb dX7_found_21 (by decide) ?_
        refine x_calli (va_runV (As := [.int (nI 60)]) (rest := [.int 15, .int (nI j), .ref t]) ⟨hx, hb, hml, hown, hts⟩ (c_X7_draw l D cy lo n1 a1 b L xs hbl hL t (d1 + 1) wo1 _ (by omega) (by omega) hF.1.obj (by omega) 60 (by omega) (by omega)) (cwV 1 hts gX7_found_X7_draw rfl rfl rfl (by decide +kernel) ⟨Nat.le_of_ble_eq_true rfl, Nat.le_of_ble_eq_true rfl⟩) (preVT hP hK (x_scr hX hbl hS) (x_recv (ci := 7) (q := (RX7, TX7, 13)) hK.1 hP (by omega) (by omega) rfl hF.1.obj)) rfl rfl hl.1 rfl (lv_room (Nat.le_of_ble_eq_true rfl)) dX7_found_23 ⟨by show cells + 0 ≤ 22; omega, by show slots + 0 ≤ 120; omega⟩) hS (fun H locs hP hS => ?_)
        refine x_gen hP (fun b1 eb1 hP => ?_)
        have hF : FW cy w A lo n t b T P n1 b1 A1 (d1 + 2) wo1 wr1 0 G1 := by rw [eb1]; exact hF.dr
        rw [(dw_tn (L := L) (xs := xs) (d := d1 + 1) (N := 60) (by omega) (by omega)).1]
        have htb1 := tn_lt (L := L) (xs := xs) (d := d1 + 1) (N := 60) (by omega) (by omega)
        refine lv_iadd hx hb dX7_found_26 ?_
        rw [show (15 : Int32) + nI (tn L xs (d1 + 1) 60) = nI (15 + tn L xs (d1 + 1) 60) from nI_add 15 _]
        refine lv_aload_n hx hb dX7_found_27 rfl (lv_at hl 1 rfl) ?_
        refine lv_bipush (v := 90) hx hb dX7_found_28 (by decide) ?_
        refine x_calli (va_runV (As := [.int (nI 90)]) (rest := [.int (nI (15 + tn L xs (d1 + 1) 60)), .int (nI j), .ref t]) ⟨hx, hb, hml, hown, hts⟩ (c_X7_draw l D cy lo n1 b1 b L xs hbl hL t (d1 + 2) wo1 _ (by omega) (by omega) hF.1.obj (by omega) 90 (by omega) (by omega)) (cwV 1 hts gX7_found_X7_draw rfl rfl rfl (by decide +kernel) ⟨Nat.le_of_ble_eq_true rfl, Nat.le_of_ble_eq_true rfl⟩) (preVT hP hK (x_scr hX hbl hS) (x_recv (ci := 7) (q := (RX7, TX7, 13)) hK.1 hP (by omega) (by omega) rfl hF.1.obj)) rfl rfl hl.1 rfl (lv_room (Nat.le_of_ble_eq_true rfl)) dX7_found_30 ⟨by show cells + 0 ≤ 22; omega, by show slots + 0 ≤ 120; omega⟩) hS (fun H locs hP hS => ?_)
        refine x_gen hP (fun b2 eb2 hP => ?_)
        have hF : FW cy w A lo n t b T P n1 b2 A1 (d1 + 3) wo1 wr1 0 G1 := by rw [eb2]; exact hF.dr
        rw [(dw_tn (L := L) (xs := xs) (d := d1 + 2) (N := 90) (by omega) (by omega)).1]
        have htb2 := tn_lt (L := L) (xs := xs) (d := d1 + 2) (N := 90) (by omega) (by omega)
        refine lv_aload_n hx hb dX7_found_33 rfl (lv_at hl 1 rfl) ?_
        refine lv_bipush (v := 60) hx hb dX7_found_34 (by decide) ?_
        refine x_calli (va_runV (As := [.int (nI 60)]) (rest := [.int (nI (tn L xs (d1 + 2) 90)), .int (nI (15 + tn L xs (d1 + 1) 60)), .int (nI j), .ref t]) ⟨hx, hb, hml, hown, hts⟩ (c_X7_draw l D cy lo n1 b2 b L xs hbl hL t (d1 + 3) wo1 _ (by omega) (by omega) hF.1.obj (by omega) 60 (by omega) (by omega)) (cwV 1 hts gX7_found_X7_draw rfl rfl rfl (by decide +kernel) ⟨Nat.le_of_ble_eq_true rfl, Nat.le_of_ble_eq_true rfl⟩) (preVT hP hK (x_scr hX hbl hS) (x_recv (ci := 7) (q := (RX7, TX7, 13)) hK.1 hP (by omega) (by omega) rfl hF.1.obj)) rfl rfl hl.1 rfl (lv_room (Nat.le_of_ble_eq_true rfl)) dX7_found_36 ⟨by show cells + 0 ≤ 22; omega, by show slots + 0 ≤ 120; omega⟩) hS (fun H locs hP hS => ?_)
        refine x_gen hP (fun b3 eb3 hP => ?_)
        have hF : FW cy w A lo n t b T P n1 b3 A1 (d1 + 4) wo1 wr1 0 G1 := by rw [eb3]; exact hF.dr
        rw [(dw_tn (L := L) (xs := xs) (d := d1 + 3) (N := 60) (by omega) (by omega)).1]
        have htb3 := tn_lt (L := L) (xs := xs) (d := d1 + 3) (N := 60) (by omega) (by omega)
        refine lv_aload_n hx hb dX7_found_39 rfl (lv_at hl 1 rfl) ?_
        refine lv_bipush (v := 40) hx hb dX7_found_40 (by decide) ?_
        refine x_calli (va_runV (As := [.int (nI 40)]) (rest := [.int (nI (tn L xs (d1 + 3) 60)), .int (nI (tn L xs (d1 + 2) 90)), .int (nI (15 + tn L xs (d1 + 1) 60)), .int (nI j), .ref t]) ⟨hx, hb, hml, hown, hts⟩ (c_X7_draw l D cy lo n1 b3 b L xs hbl hL t (d1 + 4) wo1 _ (by omega) (by omega) hF.1.obj (by omega) 40 (by omega) (by omega)) (cwV 1 hts gX7_found_X7_draw rfl rfl rfl (by decide +kernel) ⟨Nat.le_of_ble_eq_true rfl, Nat.le_of_ble_eq_true rfl⟩) (preVT hP hK (x_scr hX hbl hS) (x_recv (ci := 7) (q := (RX7, TX7, 13)) hK.1 hP (by omega) (by omega) rfl hF.1.obj)) rfl rfl hl.1 rfl (lv_room (Nat.le_of_ble_eq_true rfl)) dX7_found_42 ⟨by show cells + 0 ≤ 22; omega, by show slots + 0 ≤ 120; omega⟩) hS (fun H locs hP hS => ?_)
        refine x_gen hP (fun b4 eb4 hP => ?_)
        have hF : FW cy w A lo n t b T P n1 b4 A1 (d1 + 5) wo1 wr1 0 G1 := by rw [eb4]; exact hF.dr
        rw [(dw_tn (L := L) (xs := xs) (d := d1 + 4) (N := 40) (by omega) (by omega)).1]
        have htb4 := tn_lt (L := L) (xs := xs) (d := d1 + 4) (N := 40) (by omega) (by omega)
        refine x_szn hz (by omega) hP (fun hsz => ?_)
        refine x_callz (va_runV (As := [.int (nI j), .int (nI (15 + tn L xs (d1 + 1) 60)), .int (nI (tn L xs (d1 + 2) 90)), .int (nI (tn L xs (d1 + 3) 60)), .int (nI (tn L xs (d1 + 4) 40))]) (rest := []) ⟨hx, hb, hml, hown, hts⟩ (c_X7_lay l D cy lo n1 b4 b L xs hbl A1 t (d1 + 5) wo1 wr1 0 G1 T P hF.1 j (by omega) (nI (15 + tn L xs (d1 + 1) 60)) (nI (tn L xs (d1 + 2) 90)) (nI (tn L xs (d1 + 3) 60)) (nI (tn L xs (d1 + 4) 40)) ((nI_leI (a := 10) (b := 15 + tn L xs (d1 + 1) 60) (by omega) (by omega)).mpr (by omega)) ((nI_leI (a := 15 + tn L xs (d1 + 1) 60) (b := 90) (by omega) (by omega)).mpr (by omega)) ((nI_leI (a := 0) (b := tn L xs (d1 + 2) 90) (by omega) (by omega)).mpr (by omega)) ((nI_leI (a := tn L xs (d1 + 2) 90) (b := 99) (by omega) (by omega)).mpr (by omega)) ((nI_leI (a := 0) (b := tn L xs (d1 + 3) 60) (by omega) (by omega)).mpr (by omega)) ((nI_leI (a := tn L xs (d1 + 3) 60) (b := 99) (by omega) (by omega)).mpr (by omega)) ((nI_leI (a := 0) (b := tn L xs (d1 + 4) 40) (by omega) (by omega)).mpr (by omega)) ((nI_leI (a := tn L xs (d1 + 4) 40) (b := 99) (by omega) (by omega)).mpr (by omega))) (cwV 5 hts gX7_found_X7_lay rfl rfl rfl (by decide +kernel) ⟨Nat.le_of_ble_eq_true rfl, Nat.le_of_ble_eq_true rfl⟩) (preVZ hP hK (x_scr hX hbl hS) hsz (x_recv (ci := 7) (q := (RX7, TX7, 13)) hK.1 hP (by omega) (by omega) rfl hF.1.obj)) rfl rfl hl.1 rfl (lv_room (Nat.le_of_ble_eq_true rfl)) dX7_found_45 ⟨by show cells + 1 ≤ 22; omega, by show slots + 3 ≤ 120; omega⟩) hS (fun v9 n9 u9 H locs hX9 hP hz9 hS => ?_)
        obtain ⟨rfl, rfl, hT9, hF9⟩ := hX9
        have hne : ¬ nI (15 + tn L xs (d1 + 1) 60) = 0 := fun q => by have := (nI_eq (a := 15 + tn L xs (d1 + 1) 60) (b := 0) (by omega) (by omega)).mp q; omega
        have hF : FW cy w A lo n t b T P (n1 + 1) u9 (fun a => A1 a ∨ a = lo + n1) (d1 + 5) wo1 wr1 0 (m_cell G1 j (nI (15 + tn L xs (d1 + 1) 60)) (nI (tn L xs (d1 + 2) 90)) (nI (tn L xs (d1 + 3) 60)) (nI (tn L xs (d1 + 4) 40))) := hF.st hT9 hF9 (fun a h => Or.inl h) (fun a h => h.elim Or.inl (fun q => Or.inr (by omega))) (by omega) (cell_gi hF.2.1 hne) (fun i hi => by rw [cell_k (by omega) (by omega), cell_k (by omega) (by omega)]; exact hF.2.2.1 i hi)
        refine lv_if_ne (tgt := 53) hx hb dX7_found_48 (by decide) (fun _ => ?_) (fun h => absurd h (by decide))
        refine lv_iinc (v := (nI (j + 1))) (lv' := [(2, .int (nI (j + 1))), (0, .ref t), (1, .int 3)]) hx hb dX7_found_53 hl (k := 0) rfl (nI_1 _) (by decide) rfl (fun ls hl => ?_)
        refine lv_goto (tgt := 2) hx hb dX7_found_56 (by decide) ?_
        exact ih (j + 1) H locs ls _ _ _ _ _ _ _ _ _ (by omega) hl hF (by rw [hqs]; simp only [m_layS]; rw [if_neg h0]) (by omega) (by omega) (by omega) (by omega) hP hS
  refine lv_iconst (v := 0) hx hb dX7_found_0 (by decide) ?_
  refine lv_istore_n (lv' := [(2, .int (0 : Int32)), (0, .ref t), (1, .int 3)]) hx hb dX7_found_1 rfl hl (by decide) rfl (fun ls hl => ?_)
  exact key1 16 0 s.heap [] ls n w A d wo wr G 0 0 (by omega) hl ⟨hT, hG, fun i _ => hfr i, fun _ q => q, fun _ q => Or.inl q, fun _ _ => rfl, Nat.le_refl n⟩ rfl (by omega) (by omega) (by omega) (by omega) hP hS
