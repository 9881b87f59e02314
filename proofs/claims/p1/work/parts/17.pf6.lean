def m_dg (d : Int64) (v : Int32) : Int64 := d * 31 + v.toInt64
def m_d1 (G P : Mem) (k : Nat) : Int64 := fo (fun k d => m_dg d (m_many G P k)) k 5406
def m_d2c (G : Mem) (c j : Nat) (d : Int64) : Int64 := fo (fun k d => m_dg d (m_ofCell G c k)) j d
def m_d2 (G : Mem) (k : Nat) (d : Int64) : Int64 := fo (fun c d => m_d2c G c 5 d) k d
def m_d3w (G P : Mem) (w j : Nat) (d : Int64) : Int64 := fo (fun k d => m_dg d (m_ofWell G P w k)) j d
def m_d3S (nd : Nat) (G P : Mem) (w : Nat) (q : Int64 × Mem) : Int64 × Mem := if P (103 + 2 * w) 0 = 0 then (m_dg (m_d3w G P w 14 q.1) (m_best nd w 2 G q.2 10).1.1, (m_best nd w 2 G q.2 10).2) else (m_d3w G P w 14 q.1, q.2)
def m_d3 (nd : Nat) (G P : Mem) (k : Nat) (d : Int64) (T : Mem) : Int64 × Mem := fo (m_d3S nd G P) k (d, T)
def m_d4p (P : Mem) (i j : Nat) (d : Int64) : Int64 := fo (fun k d => m_dg d (P (115 + i) k)) j d
def m_d4 (G P : Mem) (k : Nat) (d : Int64) : Int64 := fo (fun i d => m_dg (m_d4p P i 4 d) (m_may2 G P i)) k d
def m_d5 (P : Mem) (k : Nat) (d : Int64) : Int64 := fo (fun k d => m_dg d (m_booked P k)) k d
theorem d1_s {G P : Mem} {k : Nat} : m_d1 G P (k + 1) = m_dg (m_d1 G P k) (m_many G P k) := rfl
theorem d2c_s {G : Mem} {c j : Nat} {d : Int64} : m_d2c G c (j + 1) d = m_dg (m_d2c G c j d) (m_ofCell G c j) := rfl
theorem d2_s {G : Mem} {k : Nat} {d : Int64} : m_d2 G (k + 1) d = m_d2c G k 5 (m_d2 G k d) := rfl
theorem d3w_s {G P : Mem} {w j : Nat} {d : Int64} : m_d3w G P w (j + 1) d = m_dg (m_d3w G P w j d) (m_ofWell G P w j) := rfl
theorem d3_s {nd : Nat} {G P : Mem} {k : Nat} {d : Int64} {T : Mem} : m_d3 nd G P (k + 1) d T = m_d3S nd G P k (m_d3 nd G P k d T) := by unfold m_d3; rw [fo_s]
theorem d4p_s {P : Mem} {i j : Nat} {d : Int64} : m_d4p P i (j + 1) d = m_dg (m_d4p P i j d) (P (115 + i) j) := rfl
theorem d4_s {G P : Mem} {k : Nat} {d : Int64} : m_d4 G P (k + 1) d = m_dg (m_d4p P k 4 (m_d4 G P k d)) (m_may2 G P k) := rfl
theorem d5_s {P : Mem} {k : Nat} {d : Int64} : m_d5 P (k + 1) d = m_dg (m_d5 P k d) (m_booked P k) := rfl
theorem nb5e : ¬ m_nb 5 1 = -1 := by decide
theorem nb5s : ¬ m_nb 5 0 = -1 := by decide

def m_digest (nd : Nat) (G T P : Mem) : Int64 × Mem := (m_dg (m_dg (m_dg (m_d5 P 5 (m_d4 G P 3 (m_d3 nd G P nd (m_d2 G 16 (m_d1 G P 15)) T).1)) (m_would nd 3 G ((m_d3 nd G P nd (m_d2 G 16 (m_d1 G P 15)) T).2)).1) (m_kept nd 5 1 2 G (m_would nd 3 G ((m_d3 nd G P nd (m_d2 G 16 (m_d1 G P 15)) T).2)).2).1) (m_kept nd 5 0 2 G (m_kept nd 5 1 2 G (m_would nd 3 G ((m_d3 nd G P nd (m_d2 G 16 (m_d1 G P 15)) T).2)).2).2).1, (m_kept nd 5 0 2 G (m_kept nd 5 1 2 G (m_would nd 3 G ((m_d3 nd G P nd (m_d2 G 16 (m_d1 G P 15)) T).2)).2).2).2)

set_option maxRecDepth 100000 in
set_option maxHeartbeats 4000000 in
/-- digest -/
theorem c_X6_digest (l : Launch) (D : va_G) (cy : Nat → ClassId) (lo n : Nat) (w0 : Nat → va_E) (o : Nat) (G T P : Mem) (ho1 : lo ≤ o) (ho2 : o + 118 ≤ lo + n) (nd : Nat) (hG : GI nd G)  : Met l yX6_digest wsX6_digest ({ frames := 6, cells := 0, slots := 0, locals := 149 }) (PcW D cy lo n (gw cy (gw cy (hw cy w0 o P) (o + 50) T) (o + 1) G) [.ref o]) (QlW D lo n (gw cy (gw cy (hw cy w0 o P) (o + 50) ((m_digest nd G T P).2)) (o + 1) G) ((m_digest nd G T P).1)) 0 0 (fun q : Nat => lo ≤ q) := by
  refine Met.ofW (cc := cX6_digest) (maxL := 5) (ret := (some .long)) (by decide) rfl ?_
  intro p e s m args below meth c s₁ B hml hv
  obtain ⟨rfl, hP, hK, hS⟩ := x_entry hv
  have hx := B.exec
  have hb := B.bytes
  have hr := B.returns
  have hts := atoms_spec (ws := wsX6_digest) B.pre
  have hown : s.vm.findClass RX6 = some m.cls := findClass_of_methodNamed B.named
  have hlocks := B.notSynchronized
  have iX2 : ∀ w ∈ u_ws RX2 TX2 12, w ∈ wsX6_digest := by decide +kernel
  have iX5 : ∀ w ∈ u_ws RX5 TX5 5, w ∈ wsX6_digest := by decide +kernel
  have iX6 : ∀ w ∈ u_ws RX6 TX6 11, w ∈ wsX6_digest := by decide +kernel
  have hl := lv_entry ([.ref o]) (n := 5) (Nat.le_of_ble_eq_true rfl)
  rw [lg_entry_eq]
  generalize (lg_sl ([.ref o]) ++ List.replicate (5 - (lg_sl ([.ref o])).length) Slot.unset).toArray = ls at hl ⊢
  have hl : lv_has ls 5 [(0, .ref o)] := hl
  have hnd := hG.1
  refine lv_ldc2 (own := RX6) (v := 5406) hx hb hown (hts (.constantLong RX6 244 (5406)) (by decide +kernel)) dX6_digest_0 ?_
  refine lv_lstore_n (lv' := [(1, .long (5406 : Int64)), (0, .ref o)]) hx hb dX6_digest_3 rfl hl (by decide) rfl (fun ls hl => ?_)
  refine lv_iconst (v := 0) hx hb dX6_digest_4 (by decide) ?_
  refine lv_istore_n (lv' := [(3, .int (0 : Int32)), (1, .long (5406 : Int64)), (0, .ref o)]) hx hb dX6_digest_5 rfl hl (by decide) rfl (fun ls hl => ?_)
  have hloop6 : ∀ (k_r k : Nat) (H : Heap) (locs : List Loc) (ls : Array Slot), k + k_r = 15 → lv_has ls 5 [(3, .int (nI k)), (1, .long (m_d1 G P k)), (0, .ref o)] → va_P D vwCl (rl lo n (gw cy (gw cy (hw cy w0 o P) (o + 50) T) (o + 1) G)) H → va_S (fun q : Nat => lo ≤ q) s.heap H locs → W p l e (headSpec wsX6_digest ({ frames := 6, cells := 0, slots := 0, locals := 149 })).room s m (([.ref o] : List Value).toArray) below meth c H locs 0 0 (MQ below (QlW D lo n (gw cy (gw cy (hw cy w0 o P) (o + 50) ((m_digest nd G T P).2)) (o + 1) G) ((m_digest nd G T P).1)) (([.ref o] : List Value).toArray) s 0 0 (fun q : Nat => lo ≤ q)) (F0 m 6 ls []) := by
    intro k_r
    induction k_r with
    | zero =>
      intro k H locs ls hk6 hl hP hS
      obtain rfl : k = 15 := by omega
      refine lv_iload_n hx hb dX6_digest_6 rfl (lv_at hl 0 rfl) ?_
      refine lv_bipush (v := 14) hx hb dX6_digest_7 (by decide) ?_
      refine lv_icmp_gt (tgt := 31) hx hb dX6_digest_9 (by decide) (fun _ => ?_) (fun c => absurd ((br_lt (show (14 : Int32) = nI 14 from rfl) (show (nI 15) = nI 15 from rfl) (by omega) (by omega)).mpr (by omega)) c)
      refine lv_iconst (v := 0) hx hb dX6_digest_31 (by decide) ?_
      refine lv_istore_n (lv' := [(3, .int (0 : Int32)), (1, .long (m_d1 G P 15)), (0, .ref o)]) hx hb dX6_digest_32 rfl hl (by decide) rfl (fun ls hl => ?_)
      have hloop33 : ∀ (ci_r ci : Nat) (H : Heap) (locs : List Loc) (ls : Array Slot), ci + ci_r = 16 → lv_has ls 5 [(3, .int (nI ci)), (1, .long (m_d2 G ci (m_d1 G P 15))), (0, .ref o)] → va_P D vwCl (rl lo n (gw cy (gw cy (hw cy w0 o P) (o + 50) T) (o + 1) G)) H → va_S (fun q : Nat => lo ≤ q) s.heap H locs → W p l e (headSpec wsX6_digest ({ frames := 6, cells := 0, slots := 0, locals := 149 })).room s m (([.ref o] : List Value).toArray) below meth c H locs 0 0 (MQ below (QlW D lo n (gw cy (gw cy (hw cy w0 o P) (o + 50) ((m_digest nd G T P).2)) (o + 1) G) ((m_digest nd G T P).1)) (([.ref o] : List Value).toArray) s 0 0 (fun q : Nat => lo ≤ q)) (F0 m 33 ls []) := by
        intro ci_r
        induction ci_r with
        | zero =>
          intro ci H locs ls hk33 hl hP hS
          obtain rfl : ci = 16 := by omega
          refine lv_iload_n hx hb dX6_digest_33 rfl (lv_at hl 0 rfl) ?_
          refine lv_bipush (v := 16) hx hb dX6_digest_34 (by decide) ?_
          refine lv_icmp_ge (tgt := 75) hx hb dX6_digest_36 (by decide) (fun _ => ?_) (fun c => absurd ((br_le (show (16 : Int32) = nI 16 from rfl) (show (nI 16) = nI 16 from rfl) (by omega) (by omega)).mpr (by omega)) c)
          refine lv_iconst (v := 0) hx hb dX6_digest_75 (by decide) ?_
          refine lv_istore_n (lv' := [(3, .int (0 : Int32)), (1, .long (m_d2 G 16 (m_d1 G P 15))), (0, .ref o)]) hx hb dX6_digest_76 rfl hl (by decide) rfl (fun ls hl => ?_)
          have hloop77 : ∀ (w_r w : Nat) (H : Heap) (locs : List Loc) (ls : Array Slot), w + w_r = nd → lv_has ls 5 [(3, .int (nI w)), (1, .long ((m_d3 nd G P w (m_d2 G 16 (m_d1 G P 15)) T).1)), (0, .ref o)] → va_P D vwCl (rl lo n (gw cy (gw cy (hw cy w0 o P) (o + 50) ((m_d3 nd G P w (m_d2 G 16 (m_d1 G P 15)) T).2)) (o + 1) G)) H → va_S (fun q : Nat => lo ≤ q) s.heap H locs → W p l e (headSpec wsX6_digest ({ frames := 6, cells := 0, slots := 0, locals := 149 })).room s m (([.ref o] : List Value).toArray) below meth c H locs 0 0 (MQ below (QlW D lo n (gw cy (gw cy (hw cy w0 o P) (o + 50) ((m_digest nd G T P).2)) (o + 1) G) ((m_digest nd G T P).1)) (([.ref o] : List Value).toArray) s 0 0 (fun q : Nat => lo ≤ q)) (F0 m 77 ls []) := by
            intro w_r
            induction w_r with
            | zero =>
              intro w H locs ls hk77 hl hP hS
              have ew : w = nd := by omega
              rw [ew] at hP
              rw [ew] at hl
              refine lv_iload_n hx hb dX6_digest_77 rfl (lv_at hl 0 rfl) ?_
              refine lv_aload_n hx hb dX6_digest_78 rfl (lv_at hl 2 rfl) ?_
              refine x_get (ref := RX6) (C := RX6) (T := TX6) (N := 11) (ci := 6) (v := .ref (o + 1)) hx hb hts iX6 hown hK.1 hP (by omega) (by omega) (((gw_out (by omega)).trans ((gw_out (by omega)).trans (hw_0)))) rfl 0 (by decide) (hts (.fieldLink RX6 10 "PoreField" "ground" "LPoreField$Ground;") (by decide +kernel)) (fun _ h9 => h9) rfl dX6_digest_79 ?_
              refine x_get (ref := RX2) (C := RX2) (T := TX2) (N := 12) (ci := 2) (v := .int (G 0 2)) hx hb hts iX2 hown hK.1 hP (by omega) (by omega) (gw_0) rfl 2 (by decide) (hts (.fieldLink RX6 87 "PoreField$Ground" "drilled" "I") (by decide +kernel)) (fun _ h9 => h9) rfl dX6_digest_82 ?_
              refine lv_icmp_ge (tgt := 151) hx hb dX6_digest_85 (by decide) (fun _ => ?_) (fun c => absurd ((br_le (show (G 0 2) = nI nd from hG.dr) (show (nI nd) = nI nd from rfl) (by omega) (by omega)).mpr (by omega)) c)
              refine lv_iconst (v := 0) hx hb dX6_digest_151 (by decide) ?_
              refine lv_istore_n (lv' := [(3, .int (0 : Int32)), (1, .long ((m_d3 nd G P nd (m_d2 G 16 (m_d1 G P 15)) T).1)), (0, .ref o)]) hx hb dX6_digest_152 rfl hl (by decide) rfl (fun ls hl => ?_)
              have hloop153 : ∀ (i_r i : Nat) (H : Heap) (locs : List Loc) (ls : Array Slot), i + i_r = 3 → lv_has ls 5 [(3, .int (nI i)), (1, .long (m_d4 G P i (m_d3 nd G P nd (m_d2 G 16 (m_d1 G P 15)) T).1)), (0, .ref o)] → va_P D vwCl (rl lo n (gw cy (gw cy (hw cy w0 o P) (o + 50) ((m_d3 nd G P nd (m_d2 G 16 (m_d1 G P 15)) T).2)) (o + 1) G)) H → va_S (fun q : Nat => lo ≤ q) s.heap H locs → W p l e (headSpec wsX6_digest ({ frames := 6, cells := 0, slots := 0, locals := 149 })).room s m (([.ref o] : List Value).toArray) below meth c H locs 0 0 (MQ below (QlW D lo n (gw cy (gw cy (hw cy w0 o P) (o + 50) ((m_digest nd G T P).2)) (o + 1) G) ((m_digest nd G T P).1)) (([.ref o] : List Value).toArray) s 0 0 (fun q : Nat => lo ≤ q)) (F0 m 153 ls []) := by
                intro i_r
                induction i_r with
                | zero =>
                  intro i H locs ls hk153 hl hP hS
                  obtain rfl : i = 3 := by omega
                  refine lv_iload_n hx hb dX6_digest_153 rfl (lv_at hl 0 rfl) ?_
                  refine lv_iconst (v := 3) hx hb dX6_digest_154 (by decide) ?_
                  refine lv_icmp_ge (tgt := 207) hx hb dX6_digest_155 (by decide) (fun _ => ?_) (fun c => absurd ((br_le (show (3 : Int32) = nI 3 from rfl) (show (nI 3) = nI 3 from rfl) (by omega) (by omega)).mpr (by omega)) c)
                  refine lv_iconst (v := 0) hx hb dX6_digest_207 (by decide) ?_
                  refine lv_istore_n (lv' := [(3, .int (0 : Int32)), (1, .long (m_d4 G P 3 (m_d3 nd G P nd (m_d2 G 16 (m_d1 G P 15)) T).1)), (0, .ref o)]) hx hb dX6_digest_208 rfl hl (by decide) rfl (fun ls hl => ?_)
                  have hloop209 : ∀ (k_r k : Nat) (H : Heap) (locs : List Loc) (ls : Array Slot), k + k_r = 5 → lv_has ls 5 [(3, .int (nI k)), (1, .long (m_d5 P k (m_d4 G P 3 (m_d3 nd G P nd (m_d2 G 16 (m_d1 G P 15)) T).1))), (0, .ref o)] → va_P D vwCl (rl lo n (gw cy (gw cy (hw cy w0 o P) (o + 50) ((m_d3 nd G P nd (m_d2 G 16 (m_d1 G P 15)) T).2)) (o + 1) G)) H → va_S (fun q : Nat => lo ≤ q) s.heap H locs → W p l e (headSpec wsX6_digest ({ frames := 6, cells := 0, slots := 0, locals := 149 })).room s m (([.ref o] : List Value).toArray) below meth c H locs 0 0 (MQ below (QlW D lo n (gw cy (gw cy (hw cy w0 o P) (o + 50) ((m_digest nd G T P).2)) (o + 1) G) ((m_digest nd G T P).1)) (([.ref o] : List Value).toArray) s 0 0 (fun q : Nat => lo ≤ q)) (F0 m 209 ls []) := by
                    intro k_r
                    induction k_r with
                    | zero =>
                      intro k H locs ls hk209 hl hP hS
                      obtain rfl : k = 5 := by omega
                      refine lv_iload_n hx hb dX6_digest_209 rfl (lv_at hl 0 rfl) ?_
                      refine lv_iconst (v := 4) hx hb dX6_digest_210 (by decide) ?_
                      refine lv_icmp_gt (tgt := 233) hx hb dX6_digest_211 (by decide) (fun _ => ?_) (fun c => absurd ((br_lt (show (4 : Int32) = nI 4 from rfl) (show (nI 5) = nI 5 from rfl) (by omega) (by omega)).mpr (by omega)) c)
                      refine lv_lload_n hx hb dX6_digest_233 rfl (lv_at hl 1 rfl) ?_
                      refine lv_ldc2 (own := RX6) (v := 31) hx hb hown (hts (.constantLong RX6 246 (31)) (by decide +kernel)) dX6_digest_234 ?_
                      refine lv_lmul hx hb dX6_digest_237 ?_
                      refine lv_aload_n hx hb dX6_digest_238 rfl (lv_at hl 2 rfl) ?_
                      refine lv_iconst (v := 3) hx hb dX6_digest_239 (by decide) ?_
                      refine x_calli (va_runV (As := [.int (3 : Int32)]) (rest := [.long ((m_d5 P 5 (m_d4 G P 3 (m_d3 nd G P nd (m_d2 G 16 (m_d1 G P 15)) T).1)) * (31 : Int64))]) ⟨hx, hb, hml, hown, hts⟩ (c_X6_wouldGive l D cy lo n w0 o G ((m_d3 nd G P nd (m_d2 G 16 (m_d1 G P 15)) T).2) P (by omega) (by omega) nd hG 3 (by omega) (by omega)) (cwV 1 hts gX6_digest_X6_wouldGive rfl rfl rfl (by decide +kernel) ⟨Nat.le_of_ble_eq_true rfl, Nat.le_of_ble_eq_true rfl⟩) (preV hP hK (x_recv (ci := 6) (q := (RX6, TX6, 11)) hK.1 hP (by omega) (by omega) rfl (((gw_out (by omega)).trans ((gw_out (by omega)).trans (hw_0)))))) rfl rfl hl.1 rfl (lv_room (Nat.le_of_ble_eq_true rfl)) dX6_digest_240 ⟨Nat.le_of_ble_eq_true rfl, Nat.le_of_ble_eq_true rfl⟩) hS (fun H locs hP hS => ?_)
                      refine lv_i2l hx hb dX6_digest_243 rfl ?_
                      refine lv_ladd hx hb dX6_digest_244 ?_
                      refine lv_lstore_n (lv' := [(1, .long (((m_d5 P 5 (m_d4 G P 3 (m_d3 nd G P nd (m_d2 G 16 (m_d1 G P 15)) T).1)) * (31 : Int64)) + (((m_would nd 3 G ((m_d3 nd G P nd (m_d2 G 16 (m_d1 G P 15)) T).2)).1).toInt64))), (3, .int (nI 5)), (0, .ref o)]) hx hb dX6_digest_245 rfl hl (by decide) rfl (fun ls hl => ?_)
                      refine lv_lload_n hx hb dX6_digest_246 rfl (lv_at hl 0 rfl) ?_
                      refine lv_ldc2 (own := RX6) (v := 31) hx hb hown (hts (.constantLong RX6 246 (31)) (by decide +kernel)) dX6_digest_247 ?_
                      refine lv_lmul hx hb dX6_digest_250 ?_
                      refine lv_aload_n hx hb dX6_digest_251 rfl (lv_at hl 2 rfl) ?_
                      refine lv_iconst (v := 5) hx hb dX6_digest_252 (by decide) ?_
                      refine lv_iconst (v := 1) hx hb dX6_digest_253 (by decide) ?_
                      refine lv_iconst (v := 2) hx hb dX6_digest_254 (by decide) ?_
                      refine x_calli (va_runV (As := [.int (5 : Int32), .int (1 : Int32), .int (2 : Int32)]) (rest := [.long ((((m_d5 P 5 (m_d4 G P 3 (m_d3 nd G P nd (m_d2 G 16 (m_d1 G P 15)) T).1)) * (31 : Int64)) + (((m_would nd 3 G ((m_d3 nd G P nd (m_d2 G 16 (m_d1 G P 15)) T).2)).1).toInt64)) * (31 : Int64))]) ⟨hx, hb, hml, hown, hts⟩ (c_X6_keptBack l D cy lo n w0 o G ((m_would nd 3 G ((m_d3 nd G P nd (m_d2 G 16 (m_d1 G P 15)) T).2)).2) P (by omega) (by omega) nd hG 5 (by omega) (1 : Int32) 2 (by omega) (by omega) nb5e) (cwV 3 hts gX6_digest_X6_keptBack rfl rfl rfl (by decide +kernel) ⟨Nat.le_of_ble_eq_true rfl, Nat.le_of_ble_eq_true rfl⟩) (preV hP hK (x_recv (ci := 6) (q := (RX6, TX6, 11)) hK.1 hP (by omega) (by omega) rfl (((gw_out (by omega)).trans ((gw_out (by omega)).trans (hw_0)))))) rfl rfl hl.1 rfl (lv_room (Nat.le_of_ble_eq_true rfl)) dX6_digest_255 ⟨Nat.le_of_ble_eq_true rfl, Nat.le_of_ble_eq_true rfl⟩) hS (fun H locs hP hS => ?_)
                      refine lv_i2l hx hb dX6_digest_258 rfl ?_
                      refine lv_ladd hx hb dX6_digest_259 ?_
                      refine lv_lstore_n (lv' := [(1, .long (((((m_d5 P 5 (m_d4 G P 3 (m_d3 nd G P nd (m_d2 G 16 (m_d1 G P 15)) T).1)) * (31 : Int64)) + (((m_would nd 3 G ((m_d3 nd G P nd (m_d2 G 16 (m_d1 G P 15)) T).2)).1).toInt64)) * (31 : Int64)) + (((m_kept nd 5 (1 : Int32) 2 G ((m_would nd 3 G ((m_d3 nd G P nd (m_d2 G 16 (m_d1 G P 15)) T).2)).2)).1).toInt64))), (3, .int (nI 5)), (0, .ref o)]) hx hb dX6_digest_260 rfl hl (by decide) rfl (fun ls hl => ?_)
                      refine lv_lload_n hx hb dX6_digest_261 rfl (lv_at hl 0 rfl) ?_
                      refine lv_ldc2 (own := RX6) (v := 31) hx hb hown (hts (.constantLong RX6 246 (31)) (by decide +kernel)) dX6_digest_262 ?_
                      refine lv_lmul hx hb dX6_digest_265 ?_
                      refine lv_aload_n hx hb dX6_digest_266 rfl (lv_at hl 2 rfl) ?_
                      refine lv_iconst (v := 5) hx hb dX6_digest_267 (by decide) ?_
                      refine lv_iconst (v := 0) hx hb dX6_digest_268 (by decide) ?_
                      refine lv_iconst (v := 2) hx hb dX6_digest_269 (by decide) ?_
                      refine x_calli (va_runV (As := [.int (5 : Int32), .int (0 : Int32), .int (2 : Int32)]) (rest := [.long ((((((m_d5 P 5 (m_d4 G P 3 (m_d3 nd G P nd (m_d2 G 16 (m_d1 G P 15)) T).1)) * (31 : Int64)) + (((m_would nd 3 G ((m_d3 nd G P nd (m_d2 G 16 (m_d1 G P 15)) T).2)).1).toInt64)) * (31 : Int64)) + (((m_kept nd 5 (1 : Int32) 2 G ((m_would nd 3 G ((m_d3 nd G P nd (m_d2 G 16 (m_d1 G P 15)) T).2)).2)).1).toInt64)) * (31 : Int64))]) ⟨hx, hb, hml, hown, hts⟩ (c_X6_keptBack l D cy lo n w0 o G ((m_kept nd 5 (1 : Int32) 2 G ((m_would nd 3 G ((m_d3 nd G P nd (m_d2 G 16 (m_d1 G P 15)) T).2)).2)).2) P (by omega) (by omega) nd hG 5 (by omega) (0 : Int32) 2 (by omega) (by omega) nb5s) (cwV 3 hts gX6_digest_X6_keptBack rfl rfl rfl (by decide +kernel) ⟨Nat.le_of_ble_eq_true rfl, Nat.le_of_ble_eq_true rfl⟩) (preV hP hK (x_recv (ci := 6) (q := (RX6, TX6, 11)) hK.1 hP (by omega) (by omega) rfl (((gw_out (by omega)).trans ((gw_out (by omega)).trans (hw_0)))))) rfl rfl hl.1 rfl (lv_room (Nat.le_of_ble_eq_true rfl)) dX6_digest_270 ⟨Nat.le_of_ble_eq_true rfl, Nat.le_of_ble_eq_true rfl⟩) hS (fun H locs hP hS => ?_)
                      refine lv_i2l hx hb dX6_digest_273 rfl ?_
                      refine lv_ladd hx hb dX6_digest_274 ?_
                      exact W.lret (v := (((((((m_d5 P 5 (m_d4 G P 3 (m_d3 nd G P nd (m_d2 G 16 (m_d1 G P 15)) T).1)) * (31 : Int64)) + (((m_would nd 3 G ((m_d3 nd G P nd (m_d2 G 16 (m_d1 G P 15)) T).2)).1).toInt64)) * (31 : Int64)) + (((m_kept nd 5 (1 : Int32) 2 G ((m_would nd 3 G ((m_d3 nd G P nd (m_d2 G 16 (m_d1 G P 15)) T).2)).2)).1).toInt64)) * (31 : Int64)) + (((m_kept nd 5 (0 : Int32) 2 G ((m_kept nd 5 (1 : Int32) 2 G ((m_would nd 3 G ((m_d3 nd G P nd (m_d2 G 16 (m_d1 G P 15)) T).2)).2)).2)).1).toInt64))) hx hb hr (fun tE ht hW => ⟨⟨(((((((m_d5 P 5 (m_d4 G P 3 (m_d3 nd G P nd (m_d2 G 16 (m_d1 G P 15)) T).1)) * (31 : Int64)) + (((m_would nd 3 G ((m_d3 nd G P nd (m_d2 G 16 (m_d1 G P 15)) T).2)).1).toInt64)) * (31 : Int64)) + (((m_kept nd 5 (1 : Int32) 2 G ((m_would nd 3 G ((m_d3 nd G P nd (m_d2 G 16 (m_d1 G P 15)) T).2)).2)).1).toInt64)) * (31 : Int64)) + (((m_kept nd 5 (0 : Int32) 2 G ((m_kept nd 5 (1 : Int32) 2 G ((m_would nd 3 G ((m_d3 nd G P nd (m_d2 G 16 (m_d1 G P 15)) T).2)).2)).2)).1).toInt64)), (), rfl, (by simp only [m_digest, m_dg]), x_at ht ((by simp only [m_digest]; exact hP))⟩, hS.F ht⟩) hS.2.2 dX6_digest_275
                    | succ k_r ih209 =>
                      intro k H locs ls hk209 hl hP hS
                      refine lv_iload_n hx hb dX6_digest_209 rfl (lv_at hl 0 rfl) ?_
                      refine lv_iconst (v := 4) hx hb dX6_digest_210 (by decide) ?_
                      refine lv_icmp_gt (tgt := 233) hx hb dX6_digest_211 (by decide) (fun c => absurd ((br_lt (show (4 : Int32) = nI 4 from rfl) (show (nI k) = nI k from rfl) (by omega) (by omega)).mp c) (by omega)) (fun _ => ?_)
                      refine lv_lload_n hx hb dX6_digest_214 rfl (lv_at hl 1 rfl) ?_
                      refine lv_ldc2 (own := RX6) (v := 31) hx hb hown (hts (.constantLong RX6 246 (31)) (by decide +kernel)) dX6_digest_215 ?_
                      refine lv_lmul hx hb dX6_digest_218 ?_
                      refine lv_aload_n hx hb dX6_digest_219 rfl (lv_at hl 2 rfl) ?_
                      refine lv_iload_n hx hb dX6_digest_220 rfl (lv_at hl 0 rfl) ?_
                      refine x_calli (va_runV (As := [.int (nI k)]) (rest := [.long ((m_d5 P k (m_d4 G P 3 (m_d3 nd G P nd (m_d2 G 16 (m_d1 G P 15)) T).1)) * (31 : Int64))]) ⟨hx, hb, hml, hown, hts⟩ (c_X6_booked l D cy lo n w0 o G ((m_d3 nd G P nd (m_d2 G 16 (m_d1 G P 15)) T).2) P (by omega) (by omega) k (by omega)) (cwV 1 hts gX6_digest_X6_booked rfl rfl rfl (by decide +kernel) ⟨Nat.le_of_ble_eq_true rfl, Nat.le_of_ble_eq_true rfl⟩) (preV hP hK (x_recv (ci := 6) (q := (RX6, TX6, 11)) hK.1 hP (by omega) (by omega) rfl (((gw_out (by omega)).trans ((gw_out (by omega)).trans (hw_0)))))) rfl rfl hl.1 rfl (lv_room (Nat.le_of_ble_eq_true rfl)) dX6_digest_221 ⟨Nat.le_of_ble_eq_true rfl, Nat.le_of_ble_eq_true rfl⟩) hS (fun H locs hP hS => ?_)
                      refine lv_i2l hx hb dX6_digest_224 rfl ?_
                      refine lv_ladd hx hb dX6_digest_225 ?_
                      refine lv_lstore_n (lv' := [(1, .long (((m_d5 P k (m_d4 G P 3 (m_d3 nd G P nd (m_d2 G 16 (m_d1 G P 15)) T).1)) * (31 : Int64)) + ((m_booked P k).toInt64))), (3, .int (nI k)), (0, .ref o)]) hx hb dX6_digest_226 rfl hl (by decide) rfl (fun ls hl => ?_)
                      refine lv_iinc (v := (nI (k + 1))) (lv' := [(3, .int (nI (k + 1))), (1, .long (((m_d5 P k (m_d4 G P 3 (m_d3 nd G P nd (m_d2 G 16 (m_d1 G P 15)) T).1)) * (31 : Int64)) + ((m_booked P k).toInt64))), (0, .ref o)]) hx hb dX6_digest_227 hl (k := 1) rfl (nI_1 _) (by decide) rfl (fun ls hl => ?_)
                      refine lv_goto (tgt := 209) hx hb dX6_digest_230 (by decide) ?_
                      have hst1 : m_d5 P (k + 1) (m_d4 G P 3 (m_d3 nd G P nd (m_d2 G 16 (m_d1 G P 15)) T).1) = (((m_d5 P k (m_d4 G P 3 (m_d3 nd G P nd (m_d2 G 16 (m_d1 G P 15)) T).1)) * (31 : Int64)) + ((m_booked P k).toInt64)) := by simp only [d5_s, m_dg]
                      have hl : lv_has ls 5 [(3, .int (nI (k + 1))), (1, .long (m_d5 P (k + 1) (m_d4 G P 3 (m_d3 nd G P nd (m_d2 G 16 (m_d1 G P 15)) T).1))), (0, .ref o)] := by rw [hst1]; exact hl
                      exact ih209 (k + 1) _ _ _ (by omega) (lv_sub hl [0, 1, 2] rfl) (hP) hS
                  exact hloop209 5 0 _ _ _ (by omega) (lv_sub hl [0, 1, 2] rfl) (hP) hS
                | succ i_r ih153 =>
                  intro i H locs ls hk153 hl hP hS
                  refine lv_iload_n hx hb dX6_digest_153 rfl (lv_at hl 0 rfl) ?_
                  refine lv_iconst (v := 3) hx hb dX6_digest_154 (by decide) ?_
                  refine lv_icmp_ge (tgt := 207) hx hb dX6_digest_155 (by decide) (fun c => absurd ((br_le (show (3 : Int32) = nI 3 from rfl) (show (nI i) = nI i from rfl) (by omega) (by omega)).mp c) (by omega)) (fun _ => ?_)
                  refine lv_iconst (v := 0) hx hb dX6_digest_158 (by decide) ?_
                  refine lv_istore (lv' := [(4, .int (0 : Int32)), (3, .int (nI i)), (1, .long (m_d4 G P i (m_d3 nd G P nd (m_d2 G 16 (m_d1 G P 15)) T).1)), (0, .ref o)]) hx hb dX6_digest_159 hl (by decide) rfl (fun ls hl => ?_)
                  have hloop161 : ∀ (k_r k : Nat) (H : Heap) (locs : List Loc) (ls : Array Slot), k + k_r = 4 → lv_has ls 5 [(4, .int (nI k)), (3, .int (nI i)), (1, .long (m_d4p P i k (m_d4 G P i (m_d3 nd G P nd (m_d2 G 16 (m_d1 G P 15)) T).1))), (0, .ref o)] → va_P D vwCl (rl lo n (gw cy (gw cy (hw cy w0 o P) (o + 50) ((m_d3 nd G P nd (m_d2 G 16 (m_d1 G P 15)) T).2)) (o + 1) G)) H → va_S (fun q : Nat => lo ≤ q) s.heap H locs → W p l e (headSpec wsX6_digest ({ frames := 6, cells := 0, slots := 0, locals := 149 })).room s m (([.ref o] : List Value).toArray) below meth c H locs 0 0 (MQ below (QlW D lo n (gw cy (gw cy (hw cy w0 o P) (o + 50) ((m_digest nd G T P).2)) (o + 1) G) ((m_digest nd G T P).1)) (([.ref o] : List Value).toArray) s 0 0 (fun q : Nat => lo ≤ q)) (F0 m 161 ls []) := by
                    intro k_r
                    induction k_r with
                    | zero =>
                      intro k H locs ls hk161 hl hP hS
                      obtain rfl : k = 4 := by omega
                      refine lv_iload hx hb dX6_digest_161 (lv_at hl 0 rfl) ?_
                      refine lv_iconst (v := 3) hx hb dX6_digest_163 (by decide) ?_
                      refine lv_icmp_gt (tgt := 188) hx hb dX6_digest_164 (by decide) (fun _ => ?_) (fun c => absurd ((br_lt (show (3 : Int32) = nI 3 from rfl) (show (nI 4) = nI 4 from rfl) (by omega) (by omega)).mpr (by omega)) c)
                      refine lv_lload_n hx hb dX6_digest_188 rfl (lv_at hl 2 rfl) ?_
                      refine lv_ldc2 (own := RX6) (v := 31) hx hb hown (hts (.constantLong RX6 246 (31)) (by decide +kernel)) dX6_digest_189 ?_
                      refine lv_lmul hx hb dX6_digest_192 ?_
                      refine lv_aload_n hx hb dX6_digest_193 rfl (lv_at hl 3 rfl) ?_
                      refine lv_iload_n hx hb dX6_digest_194 rfl (lv_at hl 1 rfl) ?_
                      refine x_calli (va_runV (As := [.int (nI i)]) (rest := [.long ((m_d4p P i 4 (m_d4 G P i (m_d3 nd G P nd (m_d2 G 16 (m_d1 G P 15)) T).1)) * (31 : Int64))]) ⟨hx, hb, hml, hown, hts⟩ (c_X6_mayLift l D cy lo n w0 o G ((m_d3 nd G P nd (m_d2 G 16 (m_d1 G P 15)) T).2) P (by omega) (by omega) i (by omega)) (cwV 1 hts gX6_digest_X6_mayLift rfl rfl rfl (by decide +kernel) ⟨Nat.le_of_ble_eq_true rfl, Nat.le_of_ble_eq_true rfl⟩) (preV hP hK (x_recv (ci := 6) (q := (RX6, TX6, 11)) hK.1 hP (by omega) (by omega) rfl (((gw_out (by omega)).trans ((gw_out (by omega)).trans (hw_0)))))) rfl rfl hl.1 rfl (lv_room (Nat.le_of_ble_eq_true rfl)) dX6_digest_195 ⟨Nat.le_of_ble_eq_true rfl, Nat.le_of_ble_eq_true rfl⟩) hS (fun H locs hP hS => ?_)
                      refine lv_i2l hx hb dX6_digest_198 rfl ?_
                      refine lv_ladd hx hb dX6_digest_199 ?_
                      refine lv_lstore_n (lv' := [(1, .long (((m_d4p P i 4 (m_d4 G P i (m_d3 nd G P nd (m_d2 G 16 (m_d1 G P 15)) T).1)) * (31 : Int64)) + ((m_may2 G P i).toInt64))), (4, .int (nI 4)), (3, .int (nI i)), (0, .ref o)]) hx hb dX6_digest_200 rfl hl (by decide) rfl (fun ls hl => ?_)
                      refine lv_iinc (v := (nI (i + 1))) (lv' := [(3, .int (nI (i + 1))), (1, .long (((m_d4p P i 4 (m_d4 G P i (m_d3 nd G P nd (m_d2 G 16 (m_d1 G P 15)) T).1)) * (31 : Int64)) + ((m_may2 G P i).toInt64))), (4, .int (nI 4)), (0, .ref o)]) hx hb dX6_digest_201 hl (k := 2) rfl (nI_1 _) (by decide) rfl (fun ls hl => ?_)
                      refine lv_goto (tgt := 153) hx hb dX6_digest_204 (by decide) ?_
                      have hst1 : m_d4 G P (i + 1) (m_d3 nd G P nd (m_d2 G 16 (m_d1 G P 15)) T).1 = (((m_d4p P i 4 (m_d4 G P i (m_d3 nd G P nd (m_d2 G 16 (m_d1 G P 15)) T).1)) * (31 : Int64)) + ((m_may2 G P i).toInt64)) := by simp only [d4_s, m_dg]
                      have hl : lv_has ls 5 [(3, .int (nI (i + 1))), (1, .long (m_d4 G P (i + 1) (m_d3 nd G P nd (m_d2 G 16 (m_d1 G P 15)) T).1)), (4, .int (nI 4)), (0, .ref o)] := by rw [hst1]; exact hl
                      exact ih153 (i + 1) _ _ _ (by omega) (lv_sub hl [0, 1, 3] rfl) (hP) hS
                    | succ k_r ih161 =>
                      intro k H locs ls hk161 hl hP hS
                      refine lv_iload hx hb dX6_digest_161 (lv_at hl 0 rfl) ?_
                      refine lv_iconst (v := 3) hx hb dX6_digest_163 (by decide) ?_
                      refine lv_icmp_gt (tgt := 188) hx hb dX6_digest_164 (by decide) (fun c => absurd ((br_lt (show (3 : Int32) = nI 3 from rfl) (show (nI k) = nI k from rfl) (by omega) (by omega)).mp c) (by omega)) (fun _ => ?_)
                      refine lv_lload_n hx hb dX6_digest_167 rfl (lv_at hl 2 rfl) ?_
                      refine lv_ldc2 (own := RX6) (v := 31) hx hb hown (hts (.constantLong RX6 246 (31)) (by decide +kernel)) dX6_digest_168 ?_
                      refine lv_lmul hx hb dX6_digest_171 ?_
                      refine lv_aload_n hx hb dX6_digest_172 rfl (lv_at hl 3 rfl) ?_
                      refine lv_iload_n hx hb dX6_digest_173 rfl (lv_at hl 1 rfl) ?_
                      refine lv_iload hx hb dX6_digest_174 (lv_at hl 0 rfl) ?_
                      refine x_calli (va_runV (As := [.int (nI i), .int (nI k)]) (rest := [.long ((m_d4p P i k (m_d4 G P i (m_d3 nd G P nd (m_d2 G 16 (m_d1 G P 15)) T).1)) * (31 : Int64))]) ⟨hx, hb, hml, hown, hts⟩ (c_X6_ofPartner l D cy lo n w0 o G ((m_d3 nd G P nd (m_d2 G 16 (m_d1 G P 15)) T).2) P (by omega) (by omega) i (by omega) k (by omega)) (cwV 2 hts gX6_digest_X6_ofPartner rfl rfl rfl (by decide +kernel) ⟨Nat.le_of_ble_eq_true rfl, Nat.le_of_ble_eq_true rfl⟩) (preV hP hK (x_recv (ci := 6) (q := (RX6, TX6, 11)) hK.1 hP (by omega) (by omega) rfl (((gw_out (by omega)).trans ((gw_out (by omega)).trans (hw_0)))))) rfl rfl hl.1 rfl (lv_room (Nat.le_of_ble_eq_true rfl)) dX6_digest_176 ⟨Nat.le_of_ble_eq_true rfl, Nat.le_of_ble_eq_true rfl⟩) hS (fun H locs hP hS => ?_)
                      refine lv_i2l hx hb dX6_digest_179 rfl ?_
                      refine lv_ladd hx hb dX6_digest_180 ?_
                      refine lv_lstore_n (lv' := [(1, .long (((m_d4p P i k (m_d4 G P i (m_d3 nd G P nd (m_d2 G 16 (m_d1 G P 15)) T).1)) * (31 : Int64)) + ((P (115 + i) k).toInt64))), (4, .int (nI k)), (3, .int (nI i)), (0, .ref o)]) hx hb dX6_digest_181 rfl hl (by decide) rfl (fun ls hl => ?_)
                      refine lv_iinc (v := (nI (k + 1))) (lv' := [(4, .int (nI (k + 1))), (1, .long (((m_d4p P i k (m_d4 G P i (m_d3 nd G P nd (m_d2 G 16 (m_d1 G P 15)) T).1)) * (31 : Int64)) + ((P (115 + i) k).toInt64))), (3, .int (nI i)), (0, .ref o)]) hx hb dX6_digest_182 hl (k := 1) rfl (nI_1 _) (by decide) rfl (fun ls hl => ?_)
                      refine lv_goto (tgt := 161) hx hb dX6_digest_185 (by decide) ?_
                      have hst1 : m_d4p P i (k + 1) (m_d4 G P i (m_d3 nd G P nd (m_d2 G 16 (m_d1 G P 15)) T).1) = (((m_d4p P i k (m_d4 G P i (m_d3 nd G P nd (m_d2 G 16 (m_d1 G P 15)) T).1)) * (31 : Int64)) + ((P (115 + i) k).toInt64)) := by simp only [d4p_s, m_dg]
                      have hl : lv_has ls 5 [(4, .int (nI (k + 1))), (1, .long (m_d4p P i (k + 1) (m_d4 G P i (m_d3 nd G P nd (m_d2 G 16 (m_d1 G P 15)) T).1))), (3, .int (nI i)), (0, .ref o)] := by rw [hst1]; exact hl
                      exact ih161 (k + 1) _ _ _ (by omega) (lv_sub hl [0, 2, 1, 3] rfl) (hP) hS
                  exact hloop161 4 0 _ _ _ (by omega) (lv_sub hl [0, 1, 2, 3] rfl) (hP) hS
              exact hloop153 3 0 _ _ _ (by omega) (lv_sub hl [0, 1, 2] rfl) (hP) hS
            | succ w_r ih77 =>
              intro w H locs ls hk77 hl hP hS
              refine lv_iload_n hx hb dX6_digest_77 rfl (lv_at hl 0 rfl) ?_
              refine lv_aload_n hx hb dX6_digest_78 rfl (lv_at hl 2 rfl) ?_
              refine x_get (ref := RX6) (C := RX6) (T := TX6) (N := 11) (ci := 6) (v := .ref (o + 1)) hx hb hts iX6 hown hK.1 hP (by omega) (by omega) (((gw_out (by omega)).trans ((gw_out (by omega)).trans (hw_0)))) rfl 0 (by decide) (hts (.fieldLink RX6 10 "PoreField" "ground" "LPoreField$Ground;") (by decide +kernel)) (fun _ h9 => h9) rfl dX6_digest_79 ?_
              refine x_get (ref := RX2) (C := RX2) (T := TX2) (N := 12) (ci := 2) (v := .int (G 0 2)) hx hb hts iX2 hown hK.1 hP (by omega) (by omega) (gw_0) rfl 2 (by decide) (hts (.fieldLink RX6 87 "PoreField$Ground" "drilled" "I") (by decide +kernel)) (fun _ h9 => h9) rfl dX6_digest_82 ?_
              refine lv_icmp_ge (tgt := 151) hx hb dX6_digest_85 (by decide) (fun c => absurd ((br_le (show (G 0 2) = nI nd from hG.dr) (show (nI w) = nI w from rfl) (by omega) (by omega)).mp c) (by omega)) (fun _ => ?_)
              refine lv_iconst (v := 0) hx hb dX6_digest_88 (by decide) ?_
              refine lv_istore (lv' := [(4, .int (0 : Int32)), (3, .int (nI w)), (1, .long ((m_d3 nd G P w (m_d2 G 16 (m_d1 G P 15)) T).1)), (0, .ref o)]) hx hb dX6_digest_89 hl (by decide) rfl (fun ls hl => ?_)
              have hloop91 : ∀ (k_r k : Nat) (H : Heap) (locs : List Loc) (ls : Array Slot), k + k_r = 14 → lv_has ls 5 [(4, .int (nI k)), (3, .int (nI w)), (1, .long (m_d3w G P w k ((m_d3 nd G P w (m_d2 G 16 (m_d1 G P 15)) T).1))), (0, .ref o)] → va_P D vwCl (rl lo n (gw cy (gw cy (hw cy w0 o P) (o + 50) ((m_d3 nd G P w (m_d2 G 16 (m_d1 G P 15)) T).2)) (o + 1) G)) H → va_S (fun q : Nat => lo ≤ q) s.heap H locs → W p l e (headSpec wsX6_digest ({ frames := 6, cells := 0, slots := 0, locals := 149 })).room s m (([.ref o] : List Value).toArray) below meth c H locs 0 0 (MQ below (QlW D lo n (gw cy (gw cy (hw cy w0 o P) (o + 50) ((m_digest nd G T P).2)) (o + 1) G) ((m_digest nd G T P).1)) (([.ref o] : List Value).toArray) s 0 0 (fun q : Nat => lo ≤ q)) (F0 m 91 ls []) := by
                intro k_r
                induction k_r with
                | zero =>
                  intro k H locs ls hk91 hl hP hS
                  obtain rfl : k = 14 := by omega
                  refine lv_iload hx hb dX6_digest_91 (lv_at hl 0 rfl) ?_
                  refine lv_bipush (v := 13) hx hb dX6_digest_93 (by decide) ?_
                  refine lv_icmp_gt (tgt := 119) hx hb dX6_digest_95 (by decide) (fun _ => ?_) (fun c => absurd ((br_lt (show (13 : Int32) = nI 13 from rfl) (show (nI 14) = nI 14 from rfl) (by omega) (by omega)).mpr (by omega)) c)
                  refine lv_aload_n hx hb dX6_digest_119 rfl (lv_at hl 3 rfl) ?_
                  refine x_get (ref := RX6) (C := RX6) (T := TX6) (N := 11) (ci := 6) (v := .ref (o + 99)) hx hb hts iX6 hown hK.1 hP (by omega) (by omega) (((gw_out (by omega)).trans ((gw_out (by omega)).trans (hw_0)))) rfl 2 (by decide) (hts (.fieldLink RX6 21 "PoreField" "logs" "[LPoreField$WellLog;") (by decide +kernel)) (fun _ h9 => h9) rfl dX6_digest_120 ?_
                  refine lv_iload_n hx hb dX6_digest_123 rfl (lv_at hl 1 rfl) ?_
                  refine x_aald (b := (o + (103 + 2 * w))) hx hb hK.1 hP (by omega) (by omega) 3 (((gw_out (by omega)).trans ((gw_out (by omega)).trans (hw_99)))) rfl (cl_of_nI (i := w) rfl (by omega)) rfl (vp_in_of_nI (i := w) rfl (by omega) (by omega)) dX6_digest_124 ?_
                  refine x_get (ref := RX5) (C := RX5) (T := TX5) (N := 5) (ci := 5) (v := .int (P (103 + 2 * w) 0)) hx hb hts iX5 hown hK.1 hP (by omega) (by omega) (((gw_out (by omega)).trans ((gw_out (by omega)).trans (hw_log (by omega))))) rfl 0 (by decide) (hts (.fieldLink RX6 125 "PoreField$WellLog" "isPlugged" "Z") (by decide +kernel)) (fun _ h9 => h9) rfl dX6_digest_125 ?_
                  refine lv_if_ne (tgt := 145) hx hb dX6_digest_128 (by decide) (fun c_128 => ?_) (fun c_128 => ?_)
                  · refine lv_iinc (v := (nI (w + 1))) (lv' := [(3, .int (nI (w + 1))), (4, .int (nI 14)), (1, .long (m_d3w G P w 14 ((m_d3 nd G P w (m_d2 G 16 (m_d1 G P 15)) T).1))), (0, .ref o)]) hx hb dX6_digest_145 hl (k := 1) rfl (nI_1 _) (by decide) rfl (fun ls hl => ?_)
                    refine lv_goto (tgt := 77) hx hb dX6_digest_148 (by decide) ?_
                    have hst1 : (m_d3 nd G P (w + 1) (m_d2 G 16 (m_d1 G P 15)) T).1 = (m_d3w G P w 14 ((m_d3 nd G P w (m_d2 G 16 (m_d1 G P 15)) T).1)) := by simp only [d3_s, m_d3S, m_dg, if_neg c_128]
                    have hst2 : (m_d3 nd G P (w + 1) (m_d2 G 16 (m_d1 G P 15)) T).2 = (m_d3 nd G P w (m_d2 G 16 (m_d1 G P 15)) T).2 := by simp only [d3_s, m_d3S, if_neg c_128]
                    have hl : lv_has ls 5 [(3, .int (nI (w + 1))), (4, .int (nI 14)), (1, .long ((m_d3 nd G P (w + 1) (m_d2 G 16 (m_d1 G P 15)) T).1)), (0, .ref o)] := by rw [hst1]; exact hl
                    exact ih77 (w + 1) _ _ _ (by omega) (lv_sub hl [0, 2, 3] rfl) ((by rw [hst2]; exact hP)) hS
                  · have hop := c_128
                    refine lv_lload_n hx hb dX6_digest_131 rfl (lv_at hl 2 rfl) ?_
                    refine lv_ldc2 (own := RX6) (v := 31) hx hb hown (hts (.constantLong RX6 246 (31)) (by decide +kernel)) dX6_digest_132 ?_
                    refine lv_lmul hx hb dX6_digest_135 ?_
                    refine lv_aload_n hx hb dX6_digest_136 rfl (lv_at hl 3 rfl) ?_
                    refine lv_iload_n hx hb dX6_digest_137 rfl (lv_at hl 1 rfl) ?_
                    refine lv_iconst (v := 2) hx hb dX6_digest_138 (by decide) ?_
                    refine x_calli (va_runV (As := [.int (nI w), .int (2 : Int32)]) (rest := [.long ((m_d3w G P w 14 ((m_d3 nd G P w (m_d2 G 16 (m_d1 G P 15)) T).1)) * (31 : Int64))]) ⟨hx, hb, hml, hown, hts⟩ (c_X6_bestChoke l D cy lo n w0 o G ((m_d3 nd G P w (m_d2 G 16 (m_d1 G P 15)) T).2) P (by omega) (by omega) nd hG w (by omega) 2 (by omega) (by omega) hop) (cwV 2 hts gX6_digest_X6_bestChoke rfl rfl rfl (by decide +kernel) ⟨Nat.le_of_ble_eq_true rfl, Nat.le_of_ble_eq_true rfl⟩) (preV hP hK (x_recv (ci := 6) (q := (RX6, TX6, 11)) hK.1 hP (by omega) (by omega) rfl (((gw_out (by omega)).trans ((gw_out (by omega)).trans (hw_0)))))) rfl rfl hl.1 rfl (lv_room (Nat.le_of_ble_eq_true rfl)) dX6_digest_139 ⟨Nat.le_of_ble_eq_true rfl, Nat.le_of_ble_eq_true rfl⟩) hS (fun H locs hP hS => ?_)
                    refine lv_i2l hx hb dX6_digest_142 rfl ?_
                    refine lv_ladd hx hb dX6_digest_143 ?_
                    refine lv_lstore_n (lv' := [(1, .long (((m_d3w G P w 14 ((m_d3 nd G P w (m_d2 G 16 (m_d1 G P 15)) T).1)) * (31 : Int64)) + (((m_best nd w 2 G ((m_d3 nd G P w (m_d2 G 16 (m_d1 G P 15)) T).2) 10).1.1).toInt64))), (4, .int (nI 14)), (3, .int (nI w)), (0, .ref o)]) hx hb dX6_digest_144 rfl hl (by decide) rfl (fun ls hl => ?_)
                    refine lv_iinc (v := (nI (w + 1))) (lv' := [(3, .int (nI (w + 1))), (1, .long (((m_d3w G P w 14 ((m_d3 nd G P w (m_d2 G 16 (m_d1 G P 15)) T).1)) * (31 : Int64)) + (((m_best nd w 2 G ((m_d3 nd G P w (m_d2 G 16 (m_d1 G P 15)) T).2) 10).1.1).toInt64))), (4, .int (nI 14)), (0, .ref o)]) hx hb dX6_digest_145 hl (k := 2) rfl (nI_1 _) (by decide) rfl (fun ls hl => ?_)
                    refine lv_goto (tgt := 77) hx hb dX6_digest_148 (by decide) ?_
                    have hst1 : (m_d3 nd G P (w + 1) (m_d2 G 16 (m_d1 G P 15)) T).1 = (((m_d3w G P w 14 ((m_d3 nd G P w (m_d2 G 16 (m_d1 G P 15)) T).1)) * (31 : Int64)) + (((m_best nd w 2 G ((m_d3 nd G P w (m_d2 G 16 (m_d1 G P 15)) T).2) 10).1.1).toInt64)) := by simp only [d3_s, m_d3S, m_dg, if_pos c_128]
                    have hst2 : (m_d3 nd G P (w + 1) (m_d2 G 16 (m_d1 G P 15)) T).2 = (m_best nd w 2 G ((m_d3 nd G P w (m_d2 G 16 (m_d1 G P 15)) T).2) 10).2 := by simp only [d3_s, m_d3S, if_pos c_128]
                    have hl : lv_has ls 5 [(3, .int (nI (w + 1))), (1, .long ((m_d3 nd G P (w + 1) (m_d2 G 16 (m_d1 G P 15)) T).1)), (4, .int (nI 14)), (0, .ref o)] := by rw [hst1]; exact hl
                    exact ih77 (w + 1) _ _ _ (by omega) (lv_sub hl [0, 1, 3] rfl) ((by rw [hst2]; exact hP)) hS
                | succ k_r ih91 =>
                  intro k H locs ls hk91 hl hP hS
                  refine lv_iload hx hb dX6_digest_91 (lv_at hl 0 rfl) ?_
                  refine lv_bipush (v := 13) hx hb dX6_digest_93 (by decide) ?_
                  refine lv_icmp_gt (tgt := 119) hx hb dX6_digest_95 (by decide) (fun c => absurd ((br_lt (show (13 : Int32) = nI 13 from rfl) (show (nI k) = nI k from rfl) (by omega) (by omega)).mp c) (by omega)) (fun _ => ?_)
                  refine lv_lload_n hx hb dX6_digest_98 rfl (lv_at hl 2 rfl) ?_
                  refine lv_ldc2 (own := RX6) (v := 31) hx hb hown (hts (.constantLong RX6 246 (31)) (by decide +kernel)) dX6_digest_99 ?_
                  refine lv_lmul hx hb dX6_digest_102 ?_
                  refine lv_aload_n hx hb dX6_digest_103 rfl (lv_at hl 3 rfl) ?_
                  refine lv_iload_n hx hb dX6_digest_104 rfl (lv_at hl 1 rfl) ?_
                  refine lv_iload hx hb dX6_digest_105 (lv_at hl 0 rfl) ?_
                  refine x_calli (va_runV (As := [.int (nI w), .int (nI k)]) (rest := [.long ((m_d3w G P w k ((m_d3 nd G P w (m_d2 G 16 (m_d1 G P 15)) T).1)) * (31 : Int64))]) ⟨hx, hb, hml, hown, hts⟩ (c_X6_ofWell l D cy lo n w0 o G ((m_d3 nd G P w (m_d2 G 16 (m_d1 G P 15)) T).2) P (by omega) (by omega) nd hG w (by omega) k (by omega)) (cwV 2 hts gX6_digest_X6_ofWell rfl rfl rfl (by decide +kernel) ⟨Nat.le_of_ble_eq_true rfl, Nat.le_of_ble_eq_true rfl⟩) (preV hP hK (x_recv (ci := 6) (q := (RX6, TX6, 11)) hK.1 hP (by omega) (by omega) rfl (((gw_out (by omega)).trans ((gw_out (by omega)).trans (hw_0)))))) rfl rfl hl.1 rfl (lv_room (Nat.le_of_ble_eq_true rfl)) dX6_digest_107 ⟨Nat.le_of_ble_eq_true rfl, Nat.le_of_ble_eq_true rfl⟩) hS (fun H locs hP hS => ?_)
                  refine lv_i2l hx hb dX6_digest_110 rfl ?_
                  refine lv_ladd hx hb dX6_digest_111 ?_
                  refine lv_lstore_n (lv' := [(1, .long (((m_d3w G P w k ((m_d3 nd G P w (m_d2 G 16 (m_d1 G P 15)) T).1)) * (31 : Int64)) + ((m_ofWell G P w k).toInt64))), (4, .int (nI k)), (3, .int (nI w)), (0, .ref o)]) hx hb dX6_digest_112 rfl hl (by decide) rfl (fun ls hl => ?_)
                  refine lv_iinc (v := (nI (k + 1))) (lv' := [(4, .int (nI (k + 1))), (1, .long (((m_d3w G P w k ((m_d3 nd G P w (m_d2 G 16 (m_d1 G P 15)) T).1)) * (31 : Int64)) + ((m_ofWell G P w k).toInt64))), (3, .int (nI w)), (0, .ref o)]) hx hb dX6_digest_113 hl (k := 1) rfl (nI_1 _) (by decide) rfl (fun ls hl => ?_)
                  refine lv_goto (tgt := 91) hx hb dX6_digest_116 (by decide) ?_
                  have hst1 : m_d3w G P w (k + 1) ((m_d3 nd G P w (m_d2 G 16 (m_d1 G P 15)) T).1) = (((m_d3w G P w k ((m_d3 nd G P w (m_d2 G 16 (m_d1 G P 15)) T).1)) * (31 : Int64)) + ((m_ofWell G P w k).toInt64)) := by simp only [d3w_s, m_dg]
                  have hl : lv_has ls 5 [(4, .int (nI (k + 1))), (1, .long (m_d3w G P w (k + 1) ((m_d3 nd G P w (m_d2 G 16 (m_d1 G P 15)) T).1))), (3, .int (nI w)), (0, .ref o)] := by rw [hst1]; exact hl
                  exact ih91 (k + 1) _ _ _ (by omega) (lv_sub hl [0, 2, 1, 3] rfl) (hP) hS
              exact hloop91 14 0 _ _ _ (by omega) (lv_sub hl [0, 1, 2, 3] rfl) (hP) hS
          exact hloop77 nd 0 _ _ _ (by omega) (lv_sub hl [0, 1, 2] rfl) (hP) hS
        | succ ci_r ih33 =>
          intro ci H locs ls hk33 hl hP hS
          refine lv_iload_n hx hb dX6_digest_33 rfl (lv_at hl 0 rfl) ?_
          refine lv_bipush (v := 16) hx hb dX6_digest_34 (by decide) ?_
          refine lv_icmp_ge (tgt := 75) hx hb dX6_digest_36 (by decide) (fun c => absurd ((br_le (show (16 : Int32) = nI 16 from rfl) (show (nI ci) = nI ci from rfl) (by omega) (by omega)).mp c) (by omega)) (fun _ => ?_)
          refine lv_iconst (v := 0) hx hb dX6_digest_39 (by decide) ?_
          refine lv_istore (lv' := [(4, .int (0 : Int32)), (3, .int (nI ci)), (1, .long (m_d2 G ci (m_d1 G P 15))), (0, .ref o)]) hx hb dX6_digest_40 hl (by decide) rfl (fun ls hl => ?_)
          have hloop42 : ∀ (k_r k : Nat) (H : Heap) (locs : List Loc) (ls : Array Slot), k + k_r = 5 → lv_has ls 5 [(4, .int (nI k)), (3, .int (nI ci)), (1, .long (m_d2c G ci k (m_d2 G ci (m_d1 G P 15)))), (0, .ref o)] → va_P D vwCl (rl lo n (gw cy (gw cy (hw cy w0 o P) (o + 50) T) (o + 1) G)) H → va_S (fun q : Nat => lo ≤ q) s.heap H locs → W p l e (headSpec wsX6_digest ({ frames := 6, cells := 0, slots := 0, locals := 149 })).room s m (([.ref o] : List Value).toArray) below meth c H locs 0 0 (MQ below (QlW D lo n (gw cy (gw cy (hw cy w0 o P) (o + 50) ((m_digest nd G T P).2)) (o + 1) G) ((m_digest nd G T P).1)) (([.ref o] : List Value).toArray) s 0 0 (fun q : Nat => lo ≤ q)) (F0 m 42 ls []) := by
            intro k_r
            induction k_r with
            | zero =>
              intro k H locs ls hk42 hl hP hS
              obtain rfl : k = 5 := by omega
              refine lv_iload hx hb dX6_digest_42 (lv_at hl 0 rfl) ?_
              refine lv_iconst (v := 4) hx hb dX6_digest_44 (by decide) ?_
              refine lv_icmp_gt (tgt := 69) hx hb dX6_digest_45 (by decide) (fun _ => ?_) (fun c => absurd ((br_lt (show (4 : Int32) = nI 4 from rfl) (show (nI 5) = nI 5 from rfl) (by omega) (by omega)).mpr (by omega)) c)
              refine lv_iinc (v := (nI (ci + 1))) (lv' := [(3, .int (nI (ci + 1))), (4, .int (nI 5)), (1, .long (m_d2c G ci 5 (m_d2 G ci (m_d1 G P 15)))), (0, .ref o)]) hx hb dX6_digest_69 hl (k := 1) rfl (nI_1 _) (by decide) rfl (fun ls hl => ?_)
              refine lv_goto (tgt := 33) hx hb dX6_digest_72 (by decide) ?_
              have hst1 : m_d2 G (ci + 1) (m_d1 G P 15) = (m_d2c G ci 5 (m_d2 G ci (m_d1 G P 15))) := by simp only [d2_s, m_dg]
              have hl : lv_has ls 5 [(3, .int (nI (ci + 1))), (4, .int (nI 5)), (1, .long (m_d2 G (ci + 1) (m_d1 G P 15))), (0, .ref o)] := by rw [hst1]; exact hl
              exact ih33 (ci + 1) _ _ _ (by omega) (lv_sub hl [0, 2, 3] rfl) (hP) hS
            | succ k_r ih42 =>
              intro k H locs ls hk42 hl hP hS
              refine lv_iload hx hb dX6_digest_42 (lv_at hl 0 rfl) ?_
              refine lv_iconst (v := 4) hx hb dX6_digest_44 (by decide) ?_
              refine lv_icmp_gt (tgt := 69) hx hb dX6_digest_45 (by decide) (fun c => absurd ((br_lt (show (4 : Int32) = nI 4 from rfl) (show (nI k) = nI k from rfl) (by omega) (by omega)).mp c) (by omega)) (fun _ => ?_)
              refine lv_lload_n hx hb dX6_digest_48 rfl (lv_at hl 2 rfl) ?_
              refine lv_ldc2 (own := RX6) (v := 31) hx hb hown (hts (.constantLong RX6 246 (31)) (by decide +kernel)) dX6_digest_49 ?_
              refine lv_lmul hx hb dX6_digest_52 ?_
              refine lv_aload_n hx hb dX6_digest_53 rfl (lv_at hl 3 rfl) ?_
              refine lv_iload_n hx hb dX6_digest_54 rfl (lv_at hl 1 rfl) ?_
              refine lv_iload hx hb dX6_digest_55 (lv_at hl 0 rfl) ?_
              refine x_calli (va_runV (As := [.int (nI ci), .int (nI k)]) (rest := [.long ((m_d2c G ci k (m_d2 G ci (m_d1 G P 15))) * (31 : Int64))]) ⟨hx, hb, hml, hown, hts⟩ (c_X6_ofCell l D cy lo n w0 o G T P (by omega) (by omega) nd hG ci (by omega) k (by omega)) (cwV 2 hts gX6_digest_X6_ofCell rfl rfl rfl (by decide +kernel) ⟨Nat.le_of_ble_eq_true rfl, Nat.le_of_ble_eq_true rfl⟩) (preV hP hK (x_recv (ci := 6) (q := (RX6, TX6, 11)) hK.1 hP (by omega) (by omega) rfl (((gw_out (by omega)).trans ((gw_out (by omega)).trans (hw_0)))))) rfl rfl hl.1 rfl (lv_room (Nat.le_of_ble_eq_true rfl)) dX6_digest_57 ⟨Nat.le_of_ble_eq_true rfl, Nat.le_of_ble_eq_true rfl⟩) hS (fun H locs hP hS => ?_)
              refine lv_i2l hx hb dX6_digest_60 rfl ?_
              refine lv_ladd hx hb dX6_digest_61 ?_
              refine lv_lstore_n (lv' := [(1, .long (((m_d2c G ci k (m_d2 G ci (m_d1 G P 15))) * (31 : Int64)) + ((m_ofCell G ci k).toInt64))), (4, .int (nI k)), (3, .int (nI ci)), (0, .ref o)]) hx hb dX6_digest_62 rfl hl (by decide) rfl (fun ls hl => ?_)
              refine lv_iinc (v := (nI (k + 1))) (lv' := [(4, .int (nI (k + 1))), (1, .long (((m_d2c G ci k (m_d2 G ci (m_d1 G P 15))) * (31 : Int64)) + ((m_ofCell G ci k).toInt64))), (3, .int (nI ci)), (0, .ref o)]) hx hb dX6_digest_63 hl (k := 1) rfl (nI_1 _) (by decide) rfl (fun ls hl => ?_)
              refine lv_goto (tgt := 42) hx hb dX6_digest_66 (by decide) ?_
              have hst1 : m_d2c G ci (k + 1) (m_d2 G ci (m_d1 G P 15)) = (((m_d2c G ci k (m_d2 G ci (m_d1 G P 15))) * (31 : Int64)) + ((m_ofCell G ci k).toInt64)) := by simp only [d2c_s, m_dg]
              have hl : lv_has ls 5 [(4, .int (nI (k + 1))), (1, .long (m_d2c G ci (k + 1) (m_d2 G ci (m_d1 G P 15)))), (3, .int (nI ci)), (0, .ref o)] := by rw [hst1]; exact hl
              exact ih42 (k + 1) _ _ _ (by omega) (lv_sub hl [0, 2, 1, 3] rfl) (hP) hS
          exact hloop42 5 0 _ _ _ (by omega) (lv_sub hl [0, 1, 2, 3] rfl) (hP) hS
      exact hloop33 16 0 _ _ _ (by omega) (lv_sub hl [0, 1, 2] rfl) (hP) hS
    | succ k_r ih6 =>
      intro k H locs ls hk6 hl hP hS
      refine lv_iload_n hx hb dX6_digest_6 rfl (lv_at hl 0 rfl) ?_
      refine lv_bipush (v := 14) hx hb dX6_digest_7 (by decide) ?_
      refine lv_icmp_gt (tgt := 31) hx hb dX6_digest_9 (by decide) (fun c => absurd ((br_lt (show (14 : Int32) = nI 14 from rfl) (show (nI k) = nI k from rfl) (by omega) (by omega)).mp c) (by omega)) (fun _ => ?_)
      refine lv_lload_n hx hb dX6_digest_12 rfl (lv_at hl 1 rfl) ?_
      refine lv_ldc2 (own := RX6) (v := 31) hx hb hown (hts (.constantLong RX6 246 (31)) (by decide +kernel)) dX6_digest_13 ?_
      refine lv_lmul hx hb dX6_digest_16 ?_
      refine lv_aload_n hx hb dX6_digest_17 rfl (lv_at hl 2 rfl) ?_
      refine lv_iload_n hx hb dX6_digest_18 rfl (lv_at hl 0 rfl) ?_
      refine x_calli (va_runV (As := [.int (nI k)]) (rest := [.long ((m_d1 G P k) * (31 : Int64))]) ⟨hx, hb, hml, hown, hts⟩ (c_X6_many l D cy lo n w0 o G T P (by omega) (by omega) nd hG k (by omega)) (cwV 1 hts gX6_digest_X6_many rfl rfl rfl (by decide +kernel) ⟨Nat.le_of_ble_eq_true rfl, Nat.le_of_ble_eq_true rfl⟩) (preV hP hK (x_recv (ci := 6) (q := (RX6, TX6, 11)) hK.1 hP (by omega) (by omega) rfl (((gw_out (by omega)).trans ((gw_out (by omega)).trans (hw_0)))))) rfl rfl hl.1 rfl (lv_room (Nat.le_of_ble_eq_true rfl)) dX6_digest_19 ⟨Nat.le_of_ble_eq_true rfl, Nat.le_of_ble_eq_true rfl⟩) hS (fun H locs hP hS => ?_)
      refine lv_i2l hx hb dX6_digest_22 rfl ?_
      refine lv_ladd hx hb dX6_digest_23 ?_
      refine lv_lstore_n (lv' := [(1, .long (((m_d1 G P k) * (31 : Int64)) + ((m_many G P k).toInt64))), (3, .int (nI k)), (0, .ref o)]) hx hb dX6_digest_24 rfl hl (by decide) rfl (fun ls hl => ?_)
      refine lv_iinc (v := (nI (k + 1))) (lv' := [(3, .int (nI (k + 1))), (1, .long (((m_d1 G P k) * (31 : Int64)) + ((m_many G P k).toInt64))), (0, .ref o)]) hx hb dX6_digest_25 hl (k := 1) rfl (nI_1 _) (by decide) rfl (fun ls hl => ?_)
      refine lv_goto (tgt := 6) hx hb dX6_digest_28 (by decide) ?_
      have hst1 : m_d1 G P (k + 1) = (((m_d1 G P k) * (31 : Int64)) + ((m_many G P k).toInt64)) := by simp only [d1_s, m_dg]
      have hl : lv_has ls 5 [(3, .int (nI (k + 1))), (1, .long (m_d1 G P (k + 1))), (0, .ref o)] := by rw [hst1]; exact hl
      exact ih6 (k + 1) _ _ _ (by omega) (lv_sub hl [0, 1, 2] rfl) (hP) hS
  exact hloop6 15 0 _ _ _ (by omega) (lv_sub hl [0, 1, 2] rfl) (hP) hS
