section
variable {D : va_G} {cy : Nat → ClassId} {lo n : Nat} {w : Nat → va_E} {o nl np : Nat}
def hiE (cy : Nat → ClassId) (o nl np k : Nat) : va_E :=
  if k = 0 then .inr (6, [.ref (o + 1), .ref (o + 50), .ref (o + 99), .ref (o + 100), .ref (o + 101), .ref (o + 102), .int 0, .int 5, .int 0, .int 0, .int 0])
  else if k = 99 then .inl (cy 3, 6, .inr (.inr (.inr (.inr fun i => if i < nl then some (o + (103 + 2 * i)) else none))))
  else if k = 100 then .inl (cy 4, 3, .inr (.inr (.inr (.inr fun i => if i < np then some (o + (115 + i)) else none))))
  else if k = 101 then .inr (0, [.int 0, .int 0, .int 0, .int 0, .int (-1), .int 0, .int 0, .int 0])
  else if k = 102 then .inl (cy 0, 3, .inl fun _ => 0)
  else if k < 115 then if k % 2 = 1 then .inr (5, [.int 0, .int 0, .ref (o + k + 1), .int 0, .int 0]) else .inl (cy 0, 3, .inl fun _ => 0)
  else .inr (3, [.int 0, .int 0, .int 0, .int 0])
def hi (cy : Nat → ClassId) (w : Nat → va_E) (o nl np : Nat) : Nat → va_E := fun q => if o ≤ q ∧ q < o + (103 + 2 * nl + np) then hiE cy o nl np (q - o) else w q
theorem hi_at {k : Nat} (hk : k < 103 + 2 * nl + np) : hi cy w o nl np (o + k) = hiE cy o nl np k := by unfold hi; rw [if_pos (by omega), Nat.add_sub_cancel_left]
theorem hi_out {q : Nat} (h : q < o ∨ o + (103 + 2 * nl + np) ≤ q) : hi cy w o nl np q = w q := by unfold hi; rw [if_neg (by omega)]
abbrev qi (cy : Nat → ClassId) (w : Nat → va_E) (o nl np : Nat) : Nat → va_E := gw cy (gw cy (hi cy w o nl np) (o + 50) G0) (o + 1) G0
theorem qi_k {k : Nat} (hk : k = 0 ∨ 99 ≤ k) (hk2 : k < 103 + 2 * nl + np) : qi cy w o nl np (o + k) = hiE cy o nl np k := (gw_out (by omega)).trans ((gw_out (by omega)).trans (hi_at hk2))
theorem qi_0 : qi cy w o nl np o = .inr (6, [.ref (o + 1), .ref (o + 50), .ref (o + 99), .ref (o + 100), .ref (o + 101), .ref (o + 102), .int 0, .int 5, .int 0, .int 0, .int 0]) := qi_k (k := 0) (by omega) (by omega)
theorem qi_99 : qi cy w o nl np (o + 99) = .inl (cy 3, 6, .inr (.inr (.inr (.inr fun i => if i < nl then some (o + (103 + 2 * i)) else none)))) := qi_k (by omega) (by omega)
theorem qi_100 : qi cy w o nl np (o + 100) = .inl (cy 4, 3, .inr (.inr (.inr (.inr fun i => if i < np then some (o + (115 + i)) else none)))) := qi_k (by omega) (by omega)
theorem qi_p0 : qi cy w o 6 3 (o + (115 + 0)) = .inr (3, [.int 0, .int 0, .int 0, .int 0]) := qi_k (by omega) (by omega)
theorem qi_ext {f : Nat → va_E} (ho : ∀ q, (q < o ∨ o + (103 + 2 * nl + np) ≤ q) → f q = w q) (hg : ∀ k, k < 49 → f (o + 1 + k) = gEr cy (o + 1) k (G0 k)) (ht : ∀ k, k < 49 → f (o + 50 + k) = gEr cy (o + 50) k (G0 k)) (hh : ∀ k, (k = 0 ∨ 99 ≤ k) → k < 103 + 2 * nl + np → f (o + k) = hiE cy o nl np k) : f = qi cy w o nl np := by
  funext q
  by_cases h1 : o + 1 ≤ q ∧ q < o + 50
  · obtain ⟨k, rfl⟩ := Nat.exists_eq_add_of_le h1.1
    rw [hg k (by omega)]
    exact (gw_at (by omega)).symm
  · rw [show qi cy w o nl np q = gw cy (hi cy w o nl np) (o + 50) G0 q from gw_out (by omega)]
    by_cases h2 : o + 50 ≤ q ∧ q < o + 99
    · obtain ⟨k, rfl⟩ := Nat.exists_eq_add_of_le h2.1
      rw [ht k (by omega)]
      exact (gw_at (by omega)).symm
    · rw [gw_out (by omega)]
      by_cases h3 : q < o ∨ o + (103 + 2 * nl + np) ≤ q
      · rw [ho q h3, hi_out h3]
      · obtain ⟨k, rfl⟩ := Nat.exists_eq_add_of_le (show o ≤ q by omega)
        rw [hh k (by omega) (by omega), hi_at (by omega)]
theorem qi_g {k : Nat} (hk : k < 49) : qi cy w o nl np (o + 1 + k) = gEr cy (o + 1) k (G0 k) := gw_at hk
theorem qi_t {k : Nat} (hk : k < 49) : qi cy w o nl np (o + 50 + k) = gEr cy (o + 50) k (G0 k) := (gw_out (by omega)).trans (gw_at hk)
theorem qi_o {q : Nat} (h : q < o ∨ o + (103 + 2 * nl + np) ≤ q) : qi cy w o nl np q = w q := (gw_out (by omega)).trans ((gw_out (by omega)).trans (hi_out h))
theorem refs_up1 {b st n : Nat} : va_up (fun i => if i < n then some (b + (st + i)) else none) n (some (b + (st + n))) = fun i => if i < n + 1 then some (b + (st + i)) else none := by
  funext i
  unfold va_up
  by_cases h : i = n
  · subst h
    rw [if_pos rfl, if_pos (by omega)]
  · rw [if_neg h]
    show (if i < n then some (b + (st + i)) else none) = if i < n + 1 then some (b + (st + i)) else none
    by_cases h2 : i < n
    · rw [if_pos h2, if_pos (by omega)]
    · rw [if_neg h2, if_neg (by omega)]
theorem qi_log (h6 : nl < 6) : va_up (va_up (va_up (qi cy w o nl 0) (o + (103 + 2 * nl)) (.inr (5, [.int 0, .int 0, .ref (o + (103 + 2 * nl) + 1), .int 0, .int 0]))) (o + (103 + 2 * nl) + 1) (.inl (cy 0, 3, .inl fun _ => 0))) (o + 99) (.inl (cy 3, 6, .inr (.inr (.inr (.inr (va_up (fun i => if i < nl then some (o + (103 + 2 * i)) else none) nl (some (o + (103 + 2 * nl))))))))) = qi cy w o (nl + 1) 0 := by
  refine qi_ext (fun q hq => ?_) (fun k hk => ?_) (fun k hk => ?_) (fun k h1 h2 => ?_)
  · rw [xu_ne (by omega), xu_ne (by omega), xu_ne (by omega), qi_o (by omega)]
  · rw [xu_ne (by omega), xu_ne (by omega), xu_ne (by omega), qi_g hk]
  · rw [xu_ne (by omega), xu_ne (by omega), xu_ne (by omega), qi_t hk]
  · by_cases e1 : k = 99
    · subst e1
      rw [xu_same, refs_up]
      rfl
    · rw [xu_ne (by omega)]
      by_cases e2 : k = 104 + 2 * nl
      · subst e2
        rw [show o + (104 + 2 * nl) = o + (103 + 2 * nl) + 1 by omega, xu_same]
        unfold hiE
        rw [if_neg (by omega), if_neg (by omega), if_neg (by omega), if_neg (by omega), if_neg (by omega), if_pos (by omega), if_neg (by omega)]
      · rw [xu_ne (by omega)]
        by_cases e3 : k = 103 + 2 * nl
        · subst e3
          rw [xu_same]
          unfold hiE
          rw [if_neg (by omega), if_neg (by omega), if_neg (by omega), if_neg (by omega), if_neg (by omega), if_pos (by omega), if_pos (by omega)]
        · rw [xu_ne (by omega), qi_k h1 (by omega)]
          unfold hiE
          by_cases e4 : k = 0
          · rw [if_pos e4, if_pos e4]
          · rw [if_neg e4, if_neg e4, if_neg e1, if_neg e1]
theorem qi_par (h3 : np < 3) : va_up (va_up (qi cy w o 6 np) (o + (115 + np)) (.inr (3, [.int 0, .int 0, .int 0, .int 0]))) (o + 100) (.inl (cy 4, 3, .inr (.inr (.inr (.inr (va_up (fun i => if i < np then some (o + (115 + i)) else none) np (some (o + (115 + np))))))))) = qi cy w o 6 (np + 1) := by
  refine qi_ext (fun q hq => ?_) (fun k hk => ?_) (fun k hk => ?_) (fun k h1 h2 => ?_)
  · rw [xu_ne (by omega), xu_ne (by omega), qi_o (by omega)]
  · rw [xu_ne (by omega), xu_ne (by omega), qi_g hk]
  · rw [xu_ne (by omega), xu_ne (by omega), qi_t hk]
  · by_cases e1 : k = 100
    · subst e1
      rw [xu_same, refs_up1]
      rfl
    · rw [xu_ne (by omega)]
      by_cases e3 : k = 115 + np
      · subst e3
        rw [xu_same]
        unfold hiE
        rw [if_neg (by omega), if_neg (by omega), if_neg (by omega), if_neg (by omega), if_neg (by omega), if_neg (by omega)]
      · rw [xu_ne (by omega), qi_k h1 (by omega)]
        unfold hiE
        by_cases e4 : k = 0
        · rw [if_pos e4, if_pos e4]
        · rw [if_neg e4, if_neg e4]
          by_cases e5 : k = 99
          · rw [if_pos e5, if_pos e5]
          · rw [if_neg e5, if_neg e5, if_neg e1, if_neg e1]
/-- the rest's ints of a new PoreField -/
def P0 : Mem := fun k j => if k = 0 ∧ j = 7 then 5 else if k = 101 ∧ j = 4 then -1 else if k = 115 ∧ j = 0 then 100 else 0
theorem qi_pw {H : Heap} (hP : va_P D vwCl (rl lo n (va_up (qi cy w o 6 3) (o + (115 + 0)) (.inr (3, [.int 100, .int 0, .int 0, .int 0])))) H) : va_P D vwCl (rl lo n (pw cy w o G0 G0 P0)) H := by
  refine rl_P fun a h1 h2 => ?_
  have h := rl_one hP h1 h2
  by_cases c1 : o + 1 ≤ a ∧ a < o + 50
  · obtain ⟨k, rfl⟩ := Nat.exists_eq_add_of_le c1.1
    rw [xu_ne (by omega), qi_g (by omega)] at h
    rw [show pw cy w o G0 G0 P0 (o + 1 + k) = gEr cy (o + 1) k (G0 k) from gw_at (by omega)]
    exact h
  · by_cases c2 : o + 50 ≤ a ∧ a < o + 99
    · obtain ⟨k, rfl⟩ := Nat.exists_eq_add_of_le c2.1
      rw [xu_ne (by omega), qi_t (by omega)] at h
      rw [show pw cy w o G0 G0 P0 (o + 50 + k) = gEr cy (o + 50) k (G0 k) from (gw_out (by omega)).trans (gw_at (by omega))]
      exact h
    · rw [show pw cy w o G0 G0 P0 a = hw cy w o P0 a from (gw_out (by omega)).trans (gw_out (by omega))]
      by_cases c3 : a < o ∨ o + 118 ≤ a
      · rw [xu_ne (by omega), qi_o (by omega)] at h
        rw [hw_out c3]
        exact h
      · obtain ⟨k, rfl⟩ := Nat.exists_eq_add_of_le (show o ≤ a by omega)
        rw [hw_at (by omega)]
        by_cases c4 : k = 115
        · subst c4
          rw [show o + 115 = o + (115 + 0) by omega, xu_same] at h
          exact h
        · rw [xu_ne (by omega), qi_k (by omega) (by omega)] at h
          rcases (by omega : k = 0 ∨ k = 99 ∨ k = 100 ∨ k = 101 ∨ k = 102 ∨ (103 ≤ k ∧ k < 115 ∧ k % 2 = 1) ∨ (103 ≤ k ∧ k < 115 ∧ k % 2 = 0) ∨ k = 116 ∨ k = 117) with rfl | rfl | rfl | rfl | rfl | ⟨q1, q2, q3⟩ | ⟨q1, q2, q3⟩ | rfl | rfl
          · exact h
          · show H[o + 99]? = some (vp_cell _ _)
            rw [show H[o + 99]? = some (vp_cell _ _) from h]
            congr 1
            try exact arr_congr fun i hi => if_pos hi
          · show H[o + 100]? = some (vp_cell _ _)
            rw [show H[o + 100]? = some (vp_cell _ _) from h]
            congr 1
            try exact arr_congr fun i hi => if_pos hi
          · exact h
          · exact h
          · have e1 : hiE cy o 6 3 k = .inr (5, [.int 0, .int 0, .ref (o + k + 1), .int 0, .int 0]) := by
              unfold hiE
              rw [if_neg (by omega), if_neg (by omega), if_neg (by omega), if_neg (by omega), if_neg (by omega), if_pos (by omega), if_pos (by omega)]
            have e2 : hEr cy o k (P0 k) = .inr (5, [.int 0, .int 0, .ref (o + k + 1), .int 0, .int 0]) := by
              unfold hEr
              rw [if_neg (by omega), if_neg (by omega), if_neg (by omega), if_neg (by omega), if_neg (by omega), if_pos (by omega), if_pos (by omega)]
              have z : ∀ j, P0 k j = 0 := fun j => by unfold P0; rw [if_neg (by omega), if_neg (by omega), if_neg (by omega)]
              rw [z, z, z, z]
              rfl
            rw [e1] at h
            rw [e2]
            exact h
          · have e1 : hiE cy o 6 3 k = .inl (cy 0, 3, .inl fun _ => 0) := by
              unfold hiE
              rw [if_neg (by omega), if_neg (by omega), if_neg (by omega), if_neg (by omega), if_neg (by omega), if_pos (by omega), if_neg (by omega)]
            have e2 : hEr cy o k (P0 k) = .inl (cy 0, 3, .inl fun _ => 0) := by
              unfold hEr
              rw [if_neg (by omega), if_neg (by omega), if_neg (by omega), if_neg (by omega), if_neg (by omega), if_pos (by omega), if_neg (by omega)]
              have z : P0 k = fun _ => 0 := by funext j; unfold P0; rw [if_neg (by omega), if_neg (by omega), if_neg (by omega)]
              rw [z]
            rw [e1] at h
            rw [e2]
            exact h
          · exact h
          · exact h
end

set_option maxRecDepth 100000 in
set_option maxHeartbeats 4000000 in
/-- PoreField.init -/
theorem c_X6_init (l : Launch) (D : va_G) (cy : Nat → ClassId) (lo n : Nat) (w : Nat → va_E) (o : Nat) (ho1 : lo ≤ o) (ho2 : o + 1 = lo + n) : Met l yX6_init wsX6_init ({ frames := 3, cells := 117, slots := 480, locals := 62 }) (PcN D cy lo n (va_up w o (.inr (6, [.null, .null, .null, .null, .null, .null, .int 0, .int 0, .int 0, .int 0, .int 0]))) [.ref o]) (QvW D lo (n + 117) (pw cy w o G0 G0 P0)) 117 480 (fun q : Nat => lo ≤ q) := by
  refine Met.ofW (cc := cX6_init) (maxL := 2) (ret := none) (by decide) rfl ?_
  intro p e s m args below meth c s₁ B hml hv
  obtain ⟨rfl, hsz, hP, hK, hS⟩ := n_entry hv
  have hx := B.exec
  have hb := B.bytes
  have hr := B.returns
  have hts := atoms_spec (ws := wsX6_init) B.pre
  have hown : s.vm.findClass RX6 = some m.cls := findClass_of_methodNamed B.named
  have hin2 : meth.name = "<init>" := (name_of_methodNamed B.named B.method).1
  have hlocks := B.notSynchronized
  have iX0 : ∀ w ∈ u_ws RX0 TX0 8, w ∈ wsX6_init := by decide +kernel
  have iX2 : ∀ w ∈ u_ws RX2 TX2 12, w ∈ wsX6_init := by decide +kernel
  have iX3 : ∀ w ∈ u_ws RX3 TX3 4, w ∈ wsX6_init := by decide +kernel
  have iX5 : ∀ w ∈ u_ws RX5 TX5 5, w ∈ wsX6_init := by decide +kernel
  have iX6 : ∀ w ∈ u_ws RX6 TX6 11, w ∈ wsX6_init := by decide +kernel
  have hl := lv_entry ([.ref o]) (n := 2) (Nat.le_of_ble_eq_true rfl)
  rw [lg_entry_eq]
  generalize (lg_sl ([.ref o]) ++ List.replicate (2 - (lg_sl ([.ref o])).length) Slot.unset).toArray = ls at hl ⊢
  have hl : lv_has ls 2 [(0, .ref o)] := hl
  refine lv_aload_n hx hb dX6_init_0 rfl (lv_at hl 0 rfl) ?_
  refine W.objInit hx hb hown (hts (.methodLink RX6 1 objectInit) (by decide +kernel)) (hts (.instanceMethod objectInit) (by decide +kernel)) (hts (.code objectInit ⟨#[0xb1]⟩ 1 none) (by decide +kernel)) rfl (by rw [hml]; exact hl.1) rfl dX6_init_1 (Nat.le_of_ble_eq_true rfl) (Nat.le_of_ble_eq_true rfl) ?_
  refine lv_aload_n hx hb dX6_init_4 rfl (lv_at hl 0 rfl) ?_
  refine n_new (C := RX2) (T := TX2) (N := 12) (ci := 2) (fs := [.null, .null, .int 0, .null, .int 0, .int 0, .int 0, .null, .int 0, .int 0, .int 0, .int 0]) (q0 := (o + 1)) hx hb hts iX2 tyX2 tyX2_ok hown (hts (.classLink RX6 7 RX2) (by decide +kernel)) (hts (.instantiable RX2 12) (by decide +kernel)) (hts (.initialized RX2) (by decide +kernel)) hK.1.1 hP hS (by omega) (by omega) (by omega) rfl (fun j hj => by rcases (by omega : j = 0 ∨ j = 1 ∨ j = 2 ∨ j = 3 ∨ j = 4 ∨ j = 5 ∨ j = 6 ∨ j = 7 ∨ j = 8 ∨ j = 9 ∨ j = 10 ∨ j = 11) with rfl | rfl | rfl | rfl | rfl | rfl | rfl | rfl | rfl | rfl | rfl | rfl <;> rfl) (by show _ ≤ 117; omega) (by show _ ≤ 480; omega) dX6_init_5 (fun H hP hS => ?_)
  refine lv_dup hx hb dX6_init_8 rfl ?_
  refine x_sz (by omega) hP (fun hzH => ?_)
  refine x_callv (va_runI (As := []) (rest := [.ref (o + 1), .ref o]) ⟨hx, hb, hml, hown, hts⟩ (c_X2_init l D cy lo (n + 1) (va_up w o (.inr (6, [.null, .null, .null, .null, .null, .null, .int 0, .int 0, .int 0, .int 0, .int 0]))) (o + 1) (by omega) (by omega)) (cwI 0 hts ggX6_init_X2_init rfl rfl rfl (hts (.initialized RX2) (by decide +kernel)) (hts (.methodLink RX6 9 yX2_init) (by decide +kernel)) (hts (.instanceMethod yX2_init) (by decide +kernel)) rfl (by decide +kernel) ⟨Nat.le_of_ble_eq_true rfl, Nat.le_of_ble_eq_true rfl⟩) (preSN hzH hP hK) rfl rfl hl.1 rfl (lv_room (Nat.le_of_ble_eq_true rfl)) dX6_init_9 ⟨by show _ ≤ 117; omega, by show _ ≤ 480; omega⟩) hS (fun H locs hP hS => ?_)
  refine x_putF (ty := tyX6 0) (ref := RX6) (C := RX6) (T := TX6) (N := 11) (ci := 6) (v := .ref (o + 1)) hx hb hts iX6 tyX6 tyX6_ok nmX6 hown hK.1.1 hP hS (by omega) (by omega) (((gw_out (by omega)).trans (xu_same _ _ _))) rfl 0 (by decide) (hts (.fieldLink RX6 10 "PoreField" "ground" "LPoreField$Ground;") (by decide +kernel)) (fun _ h9 => h9) rfl hin2 rfl (by decide +kernel) rfl rfl (Nat.le_of_ble_eq_true rfl) dX6_init_12 (fun H locs hP hS => ?_)
  refine lv_aload_n hx hb dX6_init_15 rfl (lv_at hl 0 rfl) ?_
  refine n_new (C := RX2) (T := TX2) (N := 12) (ci := 2) (fs := [.null, .null, .int 0, .null, .int 0, .int 0, .int 0, .null, .int 0, .int 0, .int 0, .int 0]) (q0 := (o + 50)) hx hb hts iX2 tyX2 tyX2_ok hown (hts (.classLink RX6 7 RX2) (by decide +kernel)) (hts (.instantiable RX2 12) (by decide +kernel)) (hts (.initialized RX2) (by decide +kernel)) hK.1.1 hP hS (by omega) (by omega) (by omega) rfl (fun j hj => by rcases (by omega : j = 0 ∨ j = 1 ∨ j = 2 ∨ j = 3 ∨ j = 4 ∨ j = 5 ∨ j = 6 ∨ j = 7 ∨ j = 8 ∨ j = 9 ∨ j = 10 ∨ j = 11) with rfl | rfl | rfl | rfl | rfl | rfl | rfl | rfl | rfl | rfl | rfl | rfl <;> rfl) (by show _ ≤ 117; omega) (by show _ ≤ 480; omega) dX6_init_16 (fun H hP hS => ?_)
  refine lv_dup hx hb dX6_init_19 rfl ?_
  refine x_sz (by omega) hP (fun hzH => ?_)
  refine x_callv (va_runI (As := []) (rest := [.ref (o + 50), .ref o]) ⟨hx, hb, hml, hown, hts⟩ (c_X2_init l D cy lo (((n + 1) + 48) + 1) (va_up (gw cy (va_up w o (.inr (6, [.null, .null, .null, .null, .null, .null, .int 0, .int 0, .int 0, .int 0, .int 0]))) (o + 1) G0) o (.inr (6, [.ref (o + 1), .null, .null, .null, .null, .null, .int 0, .int 0, .int 0, .int 0, .int 0]))) (o + 50) (by omega) (by omega)) (cwI 0 hts ggX6_init_X2_init rfl rfl rfl (hts (.initialized RX2) (by decide +kernel)) (hts (.methodLink RX6 9 yX2_init) (by decide +kernel)) (hts (.instanceMethod yX2_init) (by decide +kernel)) rfl (by decide +kernel) ⟨Nat.le_of_ble_eq_true rfl, Nat.le_of_ble_eq_true rfl⟩) (preSN hzH hP hK) rfl rfl hl.1 rfl (lv_room (Nat.le_of_ble_eq_true rfl)) dX6_init_20 ⟨by show _ ≤ 117; omega, by show _ ≤ 480; omega⟩) hS (fun H locs hP hS => ?_)
  refine x_putF (ty := tyX6 1) (ref := RX6) (C := RX6) (T := TX6) (N := 11) (ci := 6) (v := .ref (o + 50)) hx hb hts iX6 tyX6 tyX6_ok nmX6 hown hK.1.1 hP hS (by omega) (by omega) (((gw_out (by omega)).trans (xu_same _ _ _))) rfl 1 (by decide) (hts (.fieldLink RX6 16 "PoreField" "trial" "LPoreField$Ground;") (by decide +kernel)) (fun _ h9 => h9) rfl hin2 rfl (by decide +kernel) rfl rfl (Nat.le_of_ble_eq_true rfl) dX6_init_23 (fun H locs hP hS => ?_)
  refine lv_aload_n hx hb dX6_init_26 rfl (lv_at hl 0 rfl) ?_
  refine lv_bipush (v := 6) hx hb dX6_init_27 (by decide) ?_
  refine n_newq (C := RX5) (q0 := (o + 99)) (N := 6) hx hb hown (hts (.classLink RX6 19 RX5) (by decide +kernel)) hK.2.2.2.2.1 hK.1.1 hP hS (by omega) (by omega) (by omega) 3 rfl (by decide) (by decide) (by omega) (by show _ ≤ 117; omega) (by show _ ≤ 480; omega) dX6_init_29 (fun H hP hS => ?_)
  refine x_putF (ty := tyX6 2) (ref := RX6) (C := RX6) (T := TX6) (N := 11) (ci := 6) (v := .ref (o + 99)) hx hb hts iX6 tyX6 tyX6_ok nmX6 hown hK.1.1 hP hS (by omega) (by omega) (((xu_ne (by omega)).trans (xu_same _ _ _))) rfl 2 (by decide) (hts (.fieldLink RX6 21 "PoreField" "logs" "[LPoreField$WellLog;") (by decide +kernel)) (fun _ h9 => h9) rfl hin2 rfl (by decide +kernel) rfl rfl (Nat.le_of_ble_eq_true rfl) dX6_init_32 (fun H locs hP hS => ?_)
  refine lv_aload_n hx hb dX6_init_35 rfl (lv_at hl 0 rfl) ?_
  refine lv_iconst (v := 3) hx hb dX6_init_36 (by decide) ?_
  refine n_newq (C := RX3) (q0 := (o + 100)) (N := 3) hx hb hown (hts (.classLink RX6 25 RX3) (by decide +kernel)) hK.2.2.2.2.2 hK.1.1 hP hS (by omega) (by omega) (by omega) 4 rfl (by decide) (by decide) (by omega) (by show _ ≤ 117; omega) (by show _ ≤ 480; omega) dX6_init_37 (fun H hP hS => ?_)
  refine x_putF (ty := tyX6 3) (ref := RX6) (C := RX6) (T := TX6) (N := 11) (ci := 6) (v := .ref (o + 100)) hx hb hts iX6 tyX6 tyX6_ok nmX6 hown hK.1.1 hP hS (by omega) (by omega) (((xu_ne (by omega)).trans (xu_same _ _ _))) rfl 3 (by decide) (hts (.fieldLink RX6 27 "PoreField" "partners" "[LPoreField$Partner;") (by decide +kernel)) (fun _ h9 => h9) rfl hin2 rfl (by decide +kernel) rfl rfl (Nat.le_of_ble_eq_true rfl) dX6_init_40 (fun H locs hP hS => ?_)
  refine lv_aload_n hx hb dX6_init_43 rfl (lv_at hl 0 rfl) ?_
  refine n_new (C := RX0) (T := TX0) (N := 8) (ci := 0) (fs := [.int 0, .int 0, .int 0, .int 0, .int 0, .int 0, .int 0, .int 0]) (q0 := (o + 101)) hx hb hts iX0 tyX0 tyX0_ok hown (hts (.classLink RX6 31 RX0) (by decide +kernel)) (hts (.instantiable RX0 8) (by decide +kernel)) (hts (.initialized RX0) (by decide +kernel)) hK.1.1 hP hS (by omega) (by omega) (by omega) rfl (fun j hj => by rcases (by omega : j = 0 ∨ j = 1 ∨ j = 2 ∨ j = 3 ∨ j = 4 ∨ j = 5 ∨ j = 6 ∨ j = 7) with rfl | rfl | rfl | rfl | rfl | rfl | rfl | rfl <;> rfl) (by show _ ≤ 117; omega) (by show _ ≤ 480; omega) dX6_init_44 (fun H hP hS => ?_)
  refine lv_dup hx hb dX6_init_47 rfl ?_
  refine x_sz (by omega) hP (fun hzH => ?_)
  refine x_callv (va_runIN (As := []) (rest := [.ref (o + 101), .ref o]) ⟨hx, hb, hml, hown, hts⟩ (c_X0_init l D cy lo (((((((n + 1) + 48) + 1) + 48) + 1) + 1) + 1) (va_up (va_up (va_up (va_up (va_up (gw cy (va_up (gw cy (va_up w o (.inr (6, [.null, .null, .null, .null, .null, .null, .int 0, .int 0, .int 0, .int 0, .int 0]))) (o + 1) G0) o (.inr (6, [.ref (o + 1), .null, .null, .null, .null, .null, .int 0, .int 0, .int 0, .int 0, .int 0]))) (o + 50) G0) o (.inr (6, [.ref (o + 1), .ref (o + 50), .null, .null, .null, .null, .int 0, .int 0, .int 0, .int 0, .int 0]))) (o + 99) (.inl (cy 3, 6, .inr (.inr (.inr (.inr (fun _ => none))))))) o (.inr (6, [.ref (o + 1), .ref (o + 50), .ref (o + 99), .null, .null, .null, .int 0, .int 0, .int 0, .int 0, .int 0]))) (o + 100) (.inl (cy 4, 3, .inr (.inr (.inr (.inr (fun _ => none))))))) o (.inr (6, [.ref (o + 1), .ref (o + 50), .ref (o + 99), .ref (o + 100), .null, .null, .int 0, .int 0, .int 0, .int 0, .int 0]))) (o + 101) (by omega) (by omega)) ⟨va_cnB 0 hts ggX6_init_X0_init rfl rfl rfl hK.2.1.2.2.1 (hts (.initialized RX0) (by decide +kernel)) (by decide +kernel) ⟨Nat.le_of_ble_eq_true rfl, Nat.le_of_ble_eq_true rfl⟩, rfl, hts (.instanceMethod yX0_init) (by decide +kernel)⟩ (preSN hzH hP hK) rfl rfl hl.1 rfl (lv_room (Nat.le_of_ble_eq_true rfl)) dX6_init_48 ⟨by show _ ≤ 117; omega, by show _ ≤ 480; omega⟩) hS (fun H locs hP hS => ?_)
  refine x_putF (ty := tyX6 4) (ref := RX6) (C := RX6) (T := TX6) (N := 11) (ci := 6) (v := .ref (o + 101)) hx hb hts iX6 tyX6 tyX6_ok nmX6 hown hK.1.1 hP hS (by omega) (by omega) (((xu_ne (by omega)).trans (xu_same _ _ _))) rfl 4 (by decide) (hts (.fieldLink RX6 34 "PoreField" "booking" "LPoreField$Booking;") (by decide +kernel)) (fun _ h9 => h9) rfl hin2 rfl (by decide +kernel) rfl rfl (Nat.le_of_ble_eq_true rfl) dX6_init_51 (fun H locs hP hS => ?_)
  refine lv_aload_n hx hb dX6_init_54 rfl (lv_at hl 0 rfl) ?_
  refine lv_iconst (v := 3) hx hb dX6_init_55 (by decide) ?_
  refine n_newi (q0 := (o + 102)) (N := 3) hx hb (hts (.arrayClass .int) (by decide +kernel)) hK.1.1 hP hS (by omega) (by omega) (by omega) 0 rfl (by decide) (by decide) (by omega) (by show _ ≤ 117; omega) (by show _ ≤ 480; omega) dX6_init_56 (fun H hP hS => ?_)
  refine x_putF (ty := tyX6 5) (ref := RX6) (C := RX6) (T := TX6) (N := 11) (ci := 6) (v := .ref (o + 102)) hx hb hts iX6 tyX6 tyX6_ok nmX6 hown hK.1.1 hP hS (by omega) (by omega) (((xu_ne (by omega)).trans (xu_same _ _ _))) rfl 5 (by decide) (hts (.fieldLink RX6 38 "PoreField" "cameUpEver" "[I") (by decide +kernel)) (fun _ h9 => h9) rfl hin2 rfl (by decide +kernel) rfl rfl (Nat.le_of_ble_eq_true rfl) dX6_init_58 (fun H locs hP hS => ?_)
  refine lv_aload_n hx hb dX6_init_61 rfl (lv_at hl 0 rfl) ?_
  refine lv_iconst (v := 5) hx hb dX6_init_62 (by decide) ?_
  refine x_put (ty := .int) (ref := RX6) (C := RX6) (T := TX6) (N := 11) (ci := 6) (v := .int (5 : Int32)) hx hb hts iX6 tyX6 tyX6_ok nmX6 hown hK.1.1 hP hS (by omega) (by omega) (xu_same _ _ _) rfl 7 (by decide) (hts (.fieldLink RX6 42 "PoreField" "price" "I") (by decide +kernel)) (fun _ h9 => h9) rfl (by decide +kernel) rfl rfl (Nat.le_of_ble_eq_true rfl) dX6_init_63 (fun H locs hP hS => ?_)
  refine lv_iconst (v := 0) hx hb dX6_init_66 (by decide) ?_
  refine lv_istore_n (lv' := [(1, .int (0 : Int32)), (0, .ref o)]) hx hb dX6_init_67 rfl hl (by decide) rfl (fun ls hl => ?_)
  have hloop68 : ∀ (nl_r nl : Nat) (H : Heap) (locs : List Loc) (ls : Array Slot), nl + nl_r = 6 → lv_has ls 2 [(1, .int (nI nl)), (0, .ref o)] → va_P D vwCl (rl lo (n + (102 + 2 * nl)) (qi cy w o nl 0)) H → va_S (fun q : Nat => lo ≤ q) s.heap H locs → W p l e (headSpec wsX6_init ({ frames := 3, cells := 117, slots := 480, locals := 62 })).room s m ([.ref o] : List Value).toArray below meth c H locs (102 + 2 * nl) (420 + 8 * nl) (MQ below (QvW D lo (n + 117) (pw cy w o G0 G0 P0)) ([.ref o] : List Value).toArray s 117 480 (fun q : Nat => lo ≤ q)) (F0 m 68 ls []) := by
    intro nl_r
    induction nl_r with
    | zero =>
      intro nl H locs ls hk68 hl hP hS
      obtain rfl : nl = 6 := by omega
      refine lv_iload_n hx hb dX6_init_68 rfl (lv_at hl 0 rfl) ?_
      refine lv_bipush (v := 6) hx hb dX6_init_69 (by decide) ?_
      refine lv_icmp_ge (tgt := 93) hx hb dX6_init_71 (by decide) (fun _ => ?_) (fun c => absurd ((br_le (show (6 : Int32) = nI 6 from rfl) (show (nI 6) = nI 6 from rfl) (by omega) (by omega)).mpr (by omega)) c)
      refine lv_iconst (v := 0) hx hb dX6_init_93 (by decide) ?_
      refine lv_istore_n (lv' := [(1, .int (0 : Int32)), (0, .ref o)]) hx hb dX6_init_94 rfl hl (by decide) rfl (fun ls hl => ?_)
      have hloop95 : ∀ (np_r np : Nat) (H : Heap) (locs : List Loc) (ls : Array Slot), np + np_r = 3 → lv_has ls 2 [(1, .int (nI np)), (0, .ref o)] → va_P D vwCl (rl lo (n + (114 + np)) (qi cy w o 6 np)) H → va_S (fun q : Nat => lo ≤ q) s.heap H locs → W p l e (headSpec wsX6_init ({ frames := 3, cells := 117, slots := 480, locals := 62 })).room s m ([.ref o] : List Value).toArray below meth c H locs (114 + np) (468 + 4 * np) (MQ below (QvW D lo (n + 117) (pw cy w o G0 G0 P0)) ([.ref o] : List Value).toArray s 117 480 (fun q : Nat => lo ≤ q)) (F0 m 95 ls []) := by
        intro np_r
        induction np_r with
        | zero =>
          intro np H locs ls hk95 hl hP hS
          obtain rfl : np = 3 := by omega
          refine lv_iload_n hx hb dX6_init_95 rfl (lv_at hl 0 rfl) ?_
          refine lv_iconst (v := 3) hx hb dX6_init_96 (by decide) ?_
          refine lv_icmp_ge (tgt := 119) hx hb dX6_init_97 (by decide) (fun _ => ?_) (fun c => absurd ((br_le (show (3 : Int32) = nI 3 from rfl) (show (nI 3) = nI 3 from rfl) (by omega) (by omega)).mpr (by omega)) c)
          refine lv_aload_n hx hb dX6_init_119 rfl (lv_at hl 1 rfl) ?_
          refine x_get (ref := RX6) (C := RX6) (T := TX6) (N := 11) (ci := 6) (v := .ref (o + 100)) hx hb hts iX6 hown hK.1.1 hP (by omega) (by omega) (qi_0) rfl 3 (by decide) (hts (.fieldLink RX6 27 "PoreField" "partners" "[LPoreField$Partner;") (by decide +kernel)) (fun _ h9 => h9) rfl dX6_init_120 ?_
          refine lv_iconst (v := 0) hx hb dX6_init_123 (by decide) ?_
          refine x_aald (b := (o + (115 + 0))) hx hb hK.1.1 hP (by omega) (by omega) 4 (qi_100) rfl (cl_of_nI (i := 0) rfl (by omega)) (if_pos (by omega)) (vp_in_of_nI (i := 0) rfl (by omega) (by omega)) dX6_init_124 ?_
          refine lv_bipush (v := 100) hx hb dX6_init_125 (by decide) ?_
          refine x_put (ty := .int) (ref := RX3) (C := RX3) (T := TX3) (N := 4) (ci := 3) (v := .int (100 : Int32)) hx hb hts iX3 tyX3 tyX3_ok nmX3 hown hK.1.1 hP hS (by omega) (by omega) (qi_p0) rfl 0 (by decide) (hts (.fieldLink RX6 48 "PoreField$Partner" "share" "I") (by decide +kernel)) (fun _ h9 => h9) rfl (by decide +kernel) rfl rfl (Nat.le_of_ble_eq_true rfl) dX6_init_127 (fun H locs hP hS => ?_)
          have hP := qi_pw hP
          exact W.vret hx hb hr (fun tE ht hW => ⟨⟨(), rfl, trivial, x_at ht (hP)⟩, hS.F ht⟩) hS.2.2 dX6_init_130
        | succ np_r ih95 =>
          intro np H locs ls hk95 hl hP hS
          refine lv_iload_n hx hb dX6_init_95 rfl (lv_at hl 0 rfl) ?_
          refine lv_iconst (v := 3) hx hb dX6_init_96 (by decide) ?_
          refine lv_icmp_ge (tgt := 119) hx hb dX6_init_97 (by decide) (fun c => absurd ((br_le (show (3 : Int32) = nI 3 from rfl) (show (nI np) = nI np from rfl) (by omega) (by omega)).mp c) (by omega)) (fun _ => ?_)
          refine lv_aload_n hx hb dX6_init_100 rfl (lv_at hl 1 rfl) ?_
          refine x_get (ref := RX6) (C := RX6) (T := TX6) (N := 11) (ci := 6) (v := .ref (o + 100)) hx hb hts iX6 hown hK.1.1 hP (by omega) (by omega) (qi_0) rfl 3 (by decide) (hts (.fieldLink RX6 27 "PoreField" "partners" "[LPoreField$Partner;") (by decide +kernel)) (fun _ h9 => h9) rfl dX6_init_101 ?_
          refine lv_iload_n hx hb dX6_init_104 rfl (lv_at hl 0 rfl) ?_
          refine n_new (C := RX3) (T := TX3) (N := 4) (ci := 3) (fs := [.int 0, .int 0, .int 0, .int 0]) (q0 := (o + (115 + np))) hx hb hts iX3 tyX3 tyX3_ok hown (hts (.classLink RX6 25 RX3) (by decide +kernel)) (hts (.instantiable RX3 4) (by decide +kernel)) (hts (.initialized RX3) (by decide +kernel)) hK.1.1 hP hS (by omega) (by omega) (by omega) rfl (fun j hj => by rcases (by omega : j = 0 ∨ j = 1 ∨ j = 2 ∨ j = 3) with rfl | rfl | rfl | rfl <;> rfl) (by show _ ≤ 117; omega) (by show _ ≤ 480; omega) dX6_init_105 (fun H hP hS => ?_)
          refine lv_dup hx hb dX6_init_108 rfl ?_
          refine x_sz (by omega) hP (fun hzH => ?_)
          refine x_callv (va_runIN (As := []) (rest := [.ref (o + (115 + np)), .int (nI np), .ref (o + 100)]) ⟨hx, hb, hml, hown, hts⟩ (c_X3_init l D cy lo (n + (114 + np) + 1) (qi cy w o 6 np) (o + (115 + np)) (by omega) (by omega)) ⟨va_cnB 0 hts ggX6_init_X3_init rfl rfl rfl hK.2.1.2.2.2.2 (hts (.initialized RX3) (by decide +kernel)) (by decide +kernel) ⟨Nat.le_of_ble_eq_true rfl, Nat.le_of_ble_eq_true rfl⟩, rfl, hts (.instanceMethod yX3_init) (by decide +kernel)⟩ (preSN hzH hP hK) rfl rfl hl.1 rfl (lv_room (Nat.le_of_ble_eq_true rfl)) dX6_init_109 ⟨by show _ ≤ 117; omega, by show _ ≤ 480; omega⟩) hS (fun H locs hP hS => ?_)
          refine x_aastq (r := (RX3, TX3, 4)) hx hb hK.1.1 hP hS (by omega) (by omega) (by omega) (by omega) 4 3 (((xu_ne (by omega)).trans (qi_100))) rfl (xu_same _ _ _) rfl (cl_of_nI (i := np) rfl (by omega)) (vp_in_of_nI (i := np) rfl (by omega) (by omega)) dX6_init_112 (fun H locs hP hS => ?_)
          refine lv_iinc (v := (nI (np + 1))) (lv' := [(1, .int (nI (np + 1))), (0, .ref o)]) hx hb dX6_init_113 hl (k := 0) rfl (nI_1 _) (by decide) rfl (fun ls hl => ?_)
          refine lv_goto (tgt := 95) hx hb dX6_init_116 (by decide) ?_
          rw [qi_par (by omega)] at hP
          have h9 := ih95 (np + 1) H locs ls (by omega) (lv_sub hl [0, 1] rfl) (by rw [show n + (114 + (np + 1)) = (n + (114 + np) + 1) by omega]; exact hP) hS
          rw [show 114 + (np + 1) = (((114 + np) + 1) + 0) by omega, show 468 + 4 * (np + 1) = (((468 + 4 * np) + 4) + 0) by omega] at h9
          exact h9
      exact hloop95 3 0 _ _ _ (by omega) (lv_sub hl [0, 1] rfl) hP hS
    | succ nl_r ih68 =>
      intro nl H locs ls hk68 hl hP hS
      refine lv_iload_n hx hb dX6_init_68 rfl (lv_at hl 0 rfl) ?_
      refine lv_bipush (v := 6) hx hb dX6_init_69 (by decide) ?_
      refine lv_icmp_ge (tgt := 93) hx hb dX6_init_71 (by decide) (fun c => absurd ((br_le (show (6 : Int32) = nI 6 from rfl) (show (nI nl) = nI nl from rfl) (by omega) (by omega)).mp c) (by omega)) (fun _ => ?_)
      refine lv_aload_n hx hb dX6_init_74 rfl (lv_at hl 1 rfl) ?_
      refine x_get (ref := RX6) (C := RX6) (T := TX6) (N := 11) (ci := 6) (v := .ref (o + 99)) hx hb hts iX6 hown hK.1.1 hP (by omega) (by omega) (qi_0) rfl 2 (by decide) (hts (.fieldLink RX6 21 "PoreField" "logs" "[LPoreField$WellLog;") (by decide +kernel)) (fun _ h9 => h9) rfl dX6_init_75 ?_
      refine lv_iload_n hx hb dX6_init_78 rfl (lv_at hl 0 rfl) ?_
      refine n_new (C := RX5) (T := TX5) (N := 5) (ci := 5) (fs := [.int 0, .int 0, .null, .int 0, .int 0]) (q0 := (o + (103 + 2 * nl))) hx hb hts iX5 tyX5 tyX5_ok hown (hts (.classLink RX6 19 RX5) (by decide +kernel)) (hts (.instantiable RX5 5) (by decide +kernel)) (hts (.initialized RX5) (by decide +kernel)) hK.1.1 hP hS (by omega) (by omega) (by omega) rfl (fun j hj => by rcases (by omega : j = 0 ∨ j = 1 ∨ j = 2 ∨ j = 3 ∨ j = 4) with rfl | rfl | rfl | rfl | rfl <;> rfl) (by show _ ≤ 117; omega) (by show _ ≤ 480; omega) dX6_init_79 (fun H hP hS => ?_)
      refine lv_dup hx hb dX6_init_82 rfl ?_
      refine x_sz (by omega) hP (fun hzH => ?_)
      refine x_callv (va_runIN (As := []) (rest := [.ref (o + (103 + 2 * nl)), .int (nI nl), .ref (o + 99)]) ⟨hx, hb, hml, hown, hts⟩ (c_X5_init l D cy lo (n + (102 + 2 * nl) + 1) (qi cy w o nl 0) (o + (103 + 2 * nl)) (by omega) (by omega)) ⟨va_cnB 0 hts ggX6_init_X5_init rfl rfl rfl hK.2.1.2.2.2.1 (hts (.initialized RX5) (by decide +kernel)) (by decide +kernel) ⟨Nat.le_of_ble_eq_true rfl, Nat.le_of_ble_eq_true rfl⟩, rfl, hts (.instanceMethod yX5_init) (by decide +kernel)⟩ (preSN hzH hP hK) rfl rfl hl.1 rfl (lv_room (Nat.le_of_ble_eq_true rfl)) dX6_init_83 ⟨by show _ ≤ 117; omega, by show _ ≤ 480; omega⟩) hS (fun H locs hP hS => ?_)
      refine x_aastq (r := (RX5, TX5, 5)) hx hb hK.1.1 hP hS (by omega) (by omega) (by omega) (by omega) 3 5 (((xu_ne (by omega)).trans ((xu_ne (by omega)).trans (qi_99)))) rfl (((xu_ne (by omega)).trans (xu_same _ _ _))) rfl (cl_of_nI (i := nl) rfl (by omega)) (vp_in_of_nI (i := nl) rfl (by omega) (by omega)) dX6_init_86 (fun H locs hP hS => ?_)
      refine lv_iinc (v := (nI (nl + 1))) (lv' := [(1, .int (nI (nl + 1))), (0, .ref o)]) hx hb dX6_init_87 hl (k := 0) rfl (nI_1 _) (by decide) rfl (fun ls hl => ?_)
      refine lv_goto (tgt := 68) hx hb dX6_init_90 (by decide) ?_
      rw [qi_log (by omega)] at hP
      have h9 := ih68 (nl + 1) H locs ls (by omega) (lv_sub hl [0, 1] rfl) (by rw [show n + (102 + 2 * (nl + 1)) = ((n + (102 + 2 * nl) + 1) + 1) by omega]; exact hP) hS
      rw [show 102 + 2 * (nl + 1) = (((102 + 2 * nl) + 1) + 1) by omega, show 420 + 8 * (nl + 1) = (((420 + 8 * nl) + 5) + 3) by omega] at h9
      exact h9
  have hE : (va_up (va_up (va_up (va_up (va_up (va_up (va_up (va_up (va_up (va_up (gw cy (va_up (gw cy (va_up w o (.inr (6, [.null, .null, .null, .null, .null, .null, .int 0, .int 0, .int 0, .int 0, .int 0]))) (o + 1) G0) o (.inr (6, [.ref (o + 1), .null, .null, .null, .null, .null, .int 0, .int 0, .int 0, .int 0, .int 0]))) (o + 50) G0) o (.inr (6, [.ref (o + 1), .ref (o + 50), .null, .null, .null, .null, .int 0, .int 0, .int 0, .int 0, .int 0]))) (o + 99) (.inl (cy 3, 6, .inr (.inr (.inr (.inr (fun _ => none))))))) o (.inr (6, [.ref (o + 1), .ref (o + 50), .ref (o + 99), .null, .null, .null, .int 0, .int 0, .int 0, .int 0, .int 0]))) (o + 100) (.inl (cy 4, 3, .inr (.inr (.inr (.inr (fun _ => none))))))) o (.inr (6, [.ref (o + 1), .ref (o + 50), .ref (o + 99), .ref (o + 100), .null, .null, .int 0, .int 0, .int 0, .int 0, .int 0]))) (o + 101) (.inr (0, [.int 0, .int 0, .int 0, .int 0, .int (-1 : Int32), .int 0, .int 0, .int 0]))) o (.inr (6, [.ref (o + 1), .ref (o + 50), .ref (o + 99), .ref (o + 100), .ref (o + 101), .null, .int 0, .int 0, .int 0, .int 0, .int 0]))) (o + 102) (.inl (cy 0, 3, .inl (fun _ => 0)))) o (.inr (6, [.ref (o + 1), .ref (o + 50), .ref (o + 99), .ref (o + 100), .ref (o + 101), .ref (o + 102), .int 0, .int 0, .int 0, .int 0, .int 0]))) o (.inr (6, [.ref (o + 1), .ref (o + 50), .ref (o + 99), .ref (o + 100), .ref (o + 101), .ref (o + 102), .int 0, .int (5 : Int32), .int 0, .int 0, .int 0]))) = qi cy w o 0 0 := by
    refine qi_ext (fun q hq => ?_) (fun k hk => ?_) (fun k hk => ?_) (fun k h1 h2 => ?_)
    · rw [xu_ne (by omega), xu_ne (by omega), xu_ne (by omega), xu_ne (by omega), xu_ne (by omega), xu_ne (by omega), xu_ne (by omega), xu_ne (by omega), xu_ne (by omega), xu_ne (by omega), gw_out (by omega), xu_ne (by omega), gw_out (by omega), xu_ne (by omega)]
    · rw [xu_ne (by omega), xu_ne (by omega), xu_ne (by omega), xu_ne (by omega), xu_ne (by omega), xu_ne (by omega), xu_ne (by omega), xu_ne (by omega), xu_ne (by omega), xu_ne (by omega), gw_out (by omega), xu_ne (by omega), gw_at hk]
    · rw [xu_ne (by omega), xu_ne (by omega), xu_ne (by omega), xu_ne (by omega), xu_ne (by omega), xu_ne (by omega), xu_ne (by omega), xu_ne (by omega), xu_ne (by omega), xu_ne (by omega), gw_at hk]
    · rcases (by omega : k = 0 ∨ k = 99 ∨ k = 100 ∨ k = 101 ∨ k = 102) with rfl | rfl | rfl | rfl | rfl
      · refine Eq.trans (xu_same _ _ _) ?_
        unfold hiE
        simp
      · refine Eq.trans (((xu_ne (by omega)).trans ((xu_ne (by omega)).trans ((xu_ne (by omega)).trans ((xu_ne (by omega)).trans ((xu_ne (by omega)).trans ((xu_ne (by omega)).trans ((xu_ne (by omega)).trans ((xu_ne (by omega)).trans (xu_same _ _ _)))))))))) ?_
        unfold hiE
        simp
      · refine Eq.trans (((xu_ne (by omega)).trans ((xu_ne (by omega)).trans ((xu_ne (by omega)).trans ((xu_ne (by omega)).trans ((xu_ne (by omega)).trans ((xu_ne (by omega)).trans (xu_same _ _ _)))))))) ?_
        unfold hiE
        simp
      · refine Eq.trans (((xu_ne (by omega)).trans ((xu_ne (by omega)).trans ((xu_ne (by omega)).trans ((xu_ne (by omega)).trans (xu_same _ _ _)))))) ?_
        unfold hiE
        simp
      · refine Eq.trans (((xu_ne (by omega)).trans ((xu_ne (by omega)).trans (xu_same _ _ _)))) ?_
        unfold hiE
        simp
  have hP : va_P D vwCl (rl lo ((((((((n + 1) + 48) + 1) + 48) + 1) + 1) + 1) + 1) (va_up (va_up (va_up (va_up (va_up (va_up (va_up (va_up (va_up (va_up (gw cy (va_up (gw cy (va_up w o (.inr (6, [.null, .null, .null, .null, .null, .null, .int 0, .int 0, .int 0, .int 0, .int 0]))) (o + 1) G0) o (.inr (6, [.ref (o + 1), .null, .null, .null, .null, .null, .int 0, .int 0, .int 0, .int 0, .int 0]))) (o + 50) G0) o (.inr (6, [.ref (o + 1), .ref (o + 50), .null, .null, .null, .null, .int 0, .int 0, .int 0, .int 0, .int 0]))) (o + 99) (.inl (cy 3, 6, .inr (.inr (.inr (.inr (fun _ => none))))))) o (.inr (6, [.ref (o + 1), .ref (o + 50), .ref (o + 99), .null, .null, .null, .int 0, .int 0, .int 0, .int 0, .int 0]))) (o + 100) (.inl (cy 4, 3, .inr (.inr (.inr (.inr (fun _ => none))))))) o (.inr (6, [.ref (o + 1), .ref (o + 50), .ref (o + 99), .ref (o + 100), .null, .null, .int 0, .int 0, .int 0, .int 0, .int 0]))) (o + 101) (.inr (0, [.int 0, .int 0, .int 0, .int 0, .int (-1 : Int32), .int 0, .int 0, .int 0]))) o (.inr (6, [.ref (o + 1), .ref (o + 50), .ref (o + 99), .ref (o + 100), .ref (o + 101), .null, .int 0, .int 0, .int 0, .int 0, .int 0]))) (o + 102) (.inl (cy 0, 3, .inl (fun _ => 0)))) o (.inr (6, [.ref (o + 1), .ref (o + 50), .ref (o + 99), .ref (o + 100), .ref (o + 101), .ref (o + 102), .int 0, .int 0, .int 0, .int 0, .int 0]))) o (.inr (6, [.ref (o + 1), .ref (o + 50), .ref (o + 99), .ref (o + 100), .ref (o + 101), .ref (o + 102), .int 0, .int (5 : Int32), .int 0, .int 0, .int 0])))) H := hP
  rw [hE] at hP
  exact hloop68 6 0 _ _ _ (by omega) (lv_sub hl [0, 1] rfl) hP hS
