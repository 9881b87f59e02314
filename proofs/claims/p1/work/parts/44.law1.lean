/-! the law's cases -/
set_option maxRecDepth 100000 in
set_option maxHeartbeats 1000000 in
/-- case 0: cell -/
theorem lw_c0 {p : Program} {l : Launch} {e : Env} {s : State} {m : MethodId} {below : List Frame} {meth : Method} {c : Code} {Q : State → Prop} {D : va_G} {cy : Nat → ClassId} {b : Nat} {xs : Nat → Int32} {lo n o q t : Nat} {w : Nat → va_E} (hfl : l.stackTraces = false) (hC : LC D cy p s m c b 6 xs lo) (hI : IV cy w lo n o q t) {H : Heap} {locs : List Loc} {ls : Array Slot} {cells slots : Nat} (hce : s.heap.size + cells = lo + n) (hsl : slots ≤ 2000) (hP : va_P D vwCl (rl lo n w) H) (hS : va_S (fun q : Nat => lo ≤ q) s.heap H locs) (hl : lv_has ls 9 [(0, .ref b), (1, .ref o), (2, .ref q), (3, .ref t), (4, .int (0 : Int32))])
    (kk : ∀ (H : Heap) (locs : List Loc) (ls : Array Slot) (cells slots : Nat), cells ≤ 3000 → slots ≤ 9000 → lv_has ls 9 [(0, .ref b), (4, .int (0 : Int32))] → va_S (fun q : Nat => lo ≤ q) s.heap H locs → W p l e room_1 s m #[Value.ref b] below meth c H locs cells slots Q (F0 m 1794 ls [])) : W p l e room_1 s m #[Value.ref b] below meth c H locs cells slots Q (F0 m 160 ls []) := by
  obtain ⟨hx, hb, hml, hown, hts, htl, hKI, hXK, hZ, hY, hX, hbs, hlo⟩ := id hC
  have hbl : b < lo := by omega
  have hK : KK D cy s := hKI.1
  obtain ⟨ho, hq, ht, hn, hpw, hM, hB, hF, ht0⟩ := id hI
  refine lv_aload_n hx hb dL_law_160 rfl (lv_at hl 1 rfl) ?_
  refine lv_aload_n hx hb dL_law_161 rfl (lv_at hl 0 rfl) ?_
  refine lv_iload hx hb dL_law_162 (lv_at hl 4 rfl) ?_
  refine lv_iconst (v := 1) hx hb dL_law_164 (by decide) ?_
  refine lv_iadd hx hb dL_law_165 ?_
  refine x_sld hx hb hX hbs hbl hS (i := 1) (by decide) (by unfold vp_in; decide) dL_law_166 ?_
  refine lv_aload_n hx hb dL_law_167 rfl (lv_at hl 0 rfl) ?_
  refine lv_iload hx hb dL_law_168 (lv_at hl 4 rfl) ?_
  refine lv_iconst (v := 2) hx hb dL_law_170 (by decide) ?_
  refine lv_iadd hx hb dL_law_171 ?_
  refine x_sld hx hb hX hbs hbl hS (i := 2) (by decide) (by unfold vp_in; decide) dL_law_172 ?_
  refine lv_aload_n hx hb dL_law_173 rfl (lv_at hl 0 rfl) ?_
  refine lv_iload hx hb dL_law_174 (lv_at hl 4 rfl) ?_
  refine lv_iconst (v := 3) hx hb dL_law_176 (by decide) ?_
  refine lv_iadd hx hb dL_law_177 ?_
  refine x_sld hx hb hX hbs hbl hS (i := 3) (by decide) (by unfold vp_in; decide) dL_law_178 ?_
  refine lv_aload_n hx hb dL_law_179 rfl (lv_at hl 0 rfl) ?_
  refine lv_iload hx hb dL_law_180 (lv_at hl 4 rfl) ?_
  refine lv_iconst (v := 4) hx hb dL_law_182 (by decide) ?_
  refine lv_iadd hx hb dL_law_183 ?_
  refine x_sld hx hb hX hbs hbl hS (i := 4) (by decide) (by unfold vp_in; decide) dL_law_184 ?_
  refine lv_aload_n hx hb dL_law_185 rfl (lv_at hl 0 rfl) ?_
  refine lv_iload hx hb dL_law_186 (lv_at hl 4 rfl) ?_
  refine lv_iconst (v := 5) hx hb dL_law_188 (by decide) ?_
  refine lv_iadd hx hb dL_law_189 ?_
  refine x_sld hx hb hX hbs hbl hS (i := 5) (by decide) (by unfold vp_in; decide) dL_law_190 ?_
  refine lv_aload_n hx hb dL_law_191 rfl (lv_at hl 3 rfl) ?_
  have hP1 : va_P D vwCl (rl lo n (pw cy w o G0 G0 P0)) H := by rw [hpw]; exact hP
  refine x_szn (by omega) (by omega) hP (fun hz0 => ?_)
  refine x_callY (vx_runSW (As := [.ref o, .int (xs 1), .int (xs 2), .int (xs 3), .int (xs 4), .int (xs 5), .ref t]) (rest := []) ⟨hx, hb, hml, hown, hts⟩ (c_L_cell l hfl D cy lo n w o t (by omega) (by omega) (by omega) (by omega) (by omega) _ ht0 (xs 1) (xs 2) (xs 3) (xs 4) (xs 5)) (vx_cwSW 7 hts gL_law_L_cell rfl rfl rfl (by decide +kernel) ⟨Nat.le_of_ble_eq_true rfl, Nat.le_of_ble_eq_true rfl⟩) (preSY hz0 hP1 hK hXK (hZ.kept hS.2.1) hY) rfl rfl hl.1 rfl (lv_room (Nat.le_of_ble_eq_true rfl)) dL_law_192 ⟨by show _ ≤ 662673; omega, by show _ ≤ 7114216; omega⟩) hS (fun u H locs hf hu hP hzS hS => ?_)
  have hM : MM cy u q 0 5 0 0 0 := hM.ext (fun a ha => hu a (by omega) (by omega))
  have hB : LB cy u q := hB.ext (hu _ (by omega) (by omega))
  have hF : FM cy u (q + 1) 0 300 := hF.ext (fun a h1 h2 => hu a (by omega) (by omega))
  refine lv_istore (lv' := [(5, .int (r_cell (xs 1) (xs 2) (xs 3) (xs 4) (xs 5)).1), (0, .ref b), (1, .ref o), (2, .ref q), (3, .ref t), (4, .int (0 : Int32))]) hx hb dL_law_195 hl (by decide) rfl (fun ls hl => ?_)
  refine lv_aload_n hx hb dL_law_197 rfl (lv_at hl 3 rfl) ?_
  refine lv_aload_n hx hb dL_law_198 rfl (lv_at hl 1 rfl) ?_
  refine lv_iload hx hb dL_law_199 (lv_at hl 5 rfl) ?_
  refine lv_iconst (v := 1) hx hb dL_law_201 (by decide) ?_
  refine lv_iadd hx hb dL_law_202 ?_
  refine x_sld hx hb hX hbs hbl hS (i := 1) (by decide) (by unfold vp_in; decide) dL_law_203 ?_
  refine lv_aload_n hx hb dL_law_204 rfl (lv_at hl 1 rfl) ?_
  refine lv_iload hx hb dL_law_205 (lv_at hl 5 rfl) ?_
  refine lv_iconst (v := 2) hx hb dL_law_207 (by decide) ?_
  refine lv_iadd hx hb dL_law_208 ?_
  refine x_sld hx hb hX hbs hbl hS (i := 2) (by decide) (by unfold vp_in; decide) dL_law_209 ?_
  refine lv_aload_n hx hb dL_law_210 rfl (lv_at hl 1 rfl) ?_
  refine lv_iload hx hb dL_law_211 (lv_at hl 5 rfl) ?_
  refine lv_iconst (v := 3) hx hb dL_law_213 (by decide) ?_
  refine lv_iadd hx hb dL_law_214 ?_
  refine x_sld hx hb hX hbs hbl hS (i := 3) (by decide) (by unfold vp_in; decide) dL_law_215 ?_
  refine lv_aload_n hx hb dL_law_216 rfl (lv_at hl 1 rfl) ?_
  refine lv_iload hx hb dL_law_217 (lv_at hl 5 rfl) ?_
  refine lv_iconst (v := 4) hx hb dL_law_219 (by decide) ?_
  refine lv_iadd hx hb dL_law_220 ?_
  refine x_sld hx hb hX hbs hbl hS (i := 4) (by decide) (by unfold vp_in; decide) dL_law_221 ?_
  refine lv_aload_n hx hb dL_law_222 rfl (lv_at hl 1 rfl) ?_
  refine lv_iload hx hb dL_law_223 (lv_at hl 5 rfl) ?_
  refine lv_iconst (v := 5) hx hb dL_law_225 (by decide) ?_
  refine lv_iadd hx hb dL_law_226 ?_
  refine x_sld hx hb hX hbs hbl hS (i := 5) (by decide) (by unfold vp_in; decide) dL_law_227 ?_
  refine x_callx (va_runV (As := [.int (xs 1), .int (xs 2), .int (xs 3), .int (xs 4), .int (xs 5)]) (rest := []) ⟨hx, hb, hml, hown, hts⟩ (c_X8_cell l D cy lo n u q (by omega) (by omega) 0 hM hB hF (xs 1) (xs 2) (xs 3) (xs 4) (xs 5)) (cwV 5 hts gL_law_X8_cell rfl rfl rfl (by decide +kernel) ⟨Nat.le_of_ble_eq_true rfl, Nat.le_of_ble_eq_true rfl⟩) (preV hP hK (x_recv (ci := 8) (q := (RX8, TX8, 8)) hK.1 hP (by omega) (by omega) rfl hM.self)) rfl rfl hl.1 rfl (lv_room (Nat.le_of_ble_eq_true rfl)) dL_law_228 ⟨by show _ ≤ 662673; omega, by show _ ≤ 7114216; omega⟩) hS (fun v2 u2 H locs hX2 hP hS => ?_)
  obtain ⟨hth, hans, hu2⟩ := hX2
  obtain ⟨n2, hn2⟩ : ∃ n2, n2 = n := ⟨n, rfl⟩
  rw [← hn2] at hP
  refine lv_istore (lv' := [(6, .int v2), (5, .int (r_cell (xs 1) (xs 2) (xs 3) (xs 4) (xs 5)).1), (0, .ref b), (1, .ref o), (2, .ref q), (3, .ref t), (4, .int (0 : Int32))]) hx hb dL_law_231 hl (by decide) rfl (fun ls hl => ?_)
  refine lv_aload_n hx hb dL_law_233 rfl (lv_at hl 4 rfl) ?_
  obtain ⟨fs2, hfs2⟩ := hth
  refine x_calli (va_runV (As := []) (rest := []) ⟨hx, hb, hml, hown, hts⟩ (c_X8_thrown l D cy lo n2 u2 q (by omega) (by omega) _ fs2 hfs2) (cwV 0 hts gL_law_X8_thrown rfl rfl rfl (by decide +kernel) ⟨Nat.le_of_ble_eq_true rfl, Nat.le_of_ble_eq_true rfl⟩) (preV hP hK (x_recv (ci := 8) (q := (RX8, TX8, 8)) hK.1 hP (by omega) (by omega) rfl hfs2)) rfl rfl hl.1 rfl (lv_room (Nat.le_of_ble_eq_true rfl)) dL_law_234 ⟨by show _ ≤ 662673; omega, by show _ ≤ 7114216; omega⟩) hS (fun H locs hP hS => ?_)
  refine lv_iload hx hb dL_law_237 (lv_at hl 1 rfl) ?_
  refine lv_icmp_eq (tgt := 244) hx hb dL_law_239 (by decide) (fun _ => ?_) (fun h9 => absurd rfl h9)
  refine lv_iload hx hb dL_law_244 (lv_at hl 1 rfl) ?_
  refine lv_if_ne (tgt := 261) hx hb dL_law_246 (by decide) (fun _ => ?_) (fun h0 => ?_)
  · refine lv_goto (tgt := 1794) hx hb dL_law_261 (by decide) ?_
    exact kk H locs ls _ _ (by omega) (by omega) (lv_sub hl [2, 6] rfl) hS
  · refine lv_aload_n hx hb dL_law_249 rfl (lv_at hl 5 rfl) ?_
    refine lv_iconst (v := 0) hx hb dL_law_250 (by decide) ?_
    obtain ⟨f9, hf9, hg9⟩ := hf
    have hut : u2 t = .inl (cy 7, 1, .inr (.inl f9)) := (hu2 t (by omega)).trans hf9
    refine x_lald hx hb hK.1 hP (by omega) (by omega) 7 hut rfl (cl_of_nI (i := 0) rfl (by omega)) (vp_in_of_nI (i := 0) rfl (by omega) (by omega)) dL_law_251 ?_
    refine lv_iload hx hb dL_law_252 (lv_at hl 0 rfl) ?_
    refine lv_i2l (v := f9 0) hx hb dL_law_254 (by rw [hg9 h0, hans h0]) ?_
    refine W.lcmp hx hb dL_law_255 ?_
    rw [cmp_rf]
    refine lv_if_eq (tgt := 261) hx hb dL_law_256 (by decide) (fun _ => ?_) (fun h9 => absurd rfl h9)
    refine lv_goto (tgt := 1794) hx hb dL_law_261 (by decide) ?_
    exact kk H locs ls _ _ (by omega) (by omega) (lv_sub hl [2, 6] rfl) hS
set_option maxRecDepth 100000 in
set_option maxHeartbeats 1000000 in
/-- case 1: fault -/
theorem lw_c1 {p : Program} {l : Launch} {e : Env} {s : State} {m : MethodId} {below : List Frame} {meth : Method} {c : Code} {Q : State → Prop} {D : va_G} {cy : Nat → ClassId} {b : Nat} {xs : Nat → Int32} {lo n o q t : Nat} {w : Nat → va_E} (hfl : l.stackTraces = false) (hC : LC D cy p s m c b 6 xs lo) (hI : IV cy w lo n o q t) {H : Heap} {locs : List Loc} {ls : Array Slot} {cells slots : Nat} (hce : s.heap.size + cells = lo + n) (hsl : slots ≤ 2000) (hP : va_P D vwCl (rl lo n w) H) (hS : va_S (fun q : Nat => lo ≤ q) s.heap H locs) (hl : lv_has ls 9 [(0, .ref b), (1, .ref o), (2, .ref q), (3, .ref t), (4, .int (0 : Int32))])
    (kk : ∀ (H : Heap) (locs : List Loc) (ls : Array Slot) (cells slots : Nat), cells ≤ 3000 → slots ≤ 9000 → lv_has ls 9 [(0, .ref b), (4, .int (0 : Int32))] → va_S (fun q : Nat => lo ≤ q) s.heap H locs → W p l e room_1 s m #[Value.ref b] below meth c H locs cells slots Q (F0 m 1794 ls [])) : W p l e room_1 s m #[Value.ref b] below meth c H locs cells slots Q (F0 m 264 ls []) := by
  obtain ⟨hx, hb, hml, hown, hts, htl, hKI, hXK, hZ, hY, hX, hbs, hlo⟩ := id hC
  have hbl : b < lo := by omega
  have hK : KK D cy s := hKI.1
  obtain ⟨ho, hq, ht, hn, hpw, hM, hB, hF, ht0⟩ := id hI
  refine lv_aload_n hx hb dL_law_264 rfl (lv_at hl 1 rfl) ?_
  refine lv_aload_n hx hb dL_law_265 rfl (lv_at hl 0 rfl) ?_
  refine lv_iload hx hb dL_law_266 (lv_at hl 4 rfl) ?_
  refine lv_iconst (v := 1) hx hb dL_law_268 (by decide) ?_
  refine lv_iadd hx hb dL_law_269 ?_
  refine x_sld hx hb hX hbs hbl hS (i := 1) (by decide) (by unfold vp_in; decide) dL_law_270 ?_
  refine lv_aload_n hx hb dL_law_271 rfl (lv_at hl 0 rfl) ?_
  refine lv_iload hx hb dL_law_272 (lv_at hl 4 rfl) ?_
  refine lv_iconst (v := 2) hx hb dL_law_274 (by decide) ?_
  refine lv_iadd hx hb dL_law_275 ?_
  refine x_sld hx hb hX hbs hbl hS (i := 2) (by decide) (by unfold vp_in; decide) dL_law_276 ?_
  refine x_bz hx hb dL_law_277 dL_law_280 dL_law_281 dL_law_284 ?_
  refine lv_aload_n hx hb dL_law_285 rfl (lv_at hl 0 rfl) ?_
  refine lv_iload hx hb dL_law_286 (lv_at hl 4 rfl) ?_
  refine lv_iconst (v := 3) hx hb dL_law_288 (by decide) ?_
  refine lv_iadd hx hb dL_law_289 ?_
  refine x_sld hx hb hX hbs hbl hS (i := 3) (by decide) (by unfold vp_in; decide) dL_law_290 ?_
  refine x_bz hx hb dL_law_291 dL_law_294 dL_law_295 dL_law_298 ?_
  refine lv_aload_n hx hb dL_law_299 rfl (lv_at hl 3 rfl) ?_
  have hP1 : va_P D vwCl (rl lo n (pw cy w o G0 G0 P0)) H := by rw [hpw]; exact hP
  refine x_szn (by omega) (by omega) hP (fun hz0 => ?_)
  refine x_callY (vx_runSW (As := [.ref o, .int (xs 1), .int (bz (xs 2)), .int (bz (xs 3)), .ref t]) (rest := []) ⟨hx, hb, hml, hown, hts⟩ (c_L_fault l hfl D cy lo n w o t (by omega) (by omega) (by omega) (by omega) (by omega) _ ht0 (xs 1) (bz (xs 2)) (bz (xs 3)) bz_01) (vx_cwSW 5 hts gL_law_L_fault rfl rfl rfl (by decide +kernel) ⟨Nat.le_of_ble_eq_true rfl, Nat.le_of_ble_eq_true rfl⟩) (preSY hz0 hP1 hK hXK (hZ.kept hS.2.1) hY) rfl rfl hl.1 rfl (lv_room (Nat.le_of_ble_eq_true rfl)) dL_law_300 ⟨by show _ ≤ 662673; omega, by show _ ≤ 7114216; omega⟩) hS (fun u H locs hf hu hP hzS hS => ?_)
  have hM : MM cy u q 0 5 0 0 0 := hM.ext (fun a ha => hu a (by omega) (by omega))
  have hB : LB cy u q := hB.ext (hu _ (by omega) (by omega))
  have hF : FM cy u (q + 1) 0 300 := hF.ext (fun a h1 h2 => hu a (by omega) (by omega))
  refine lv_istore (lv' := [(5, .int (r_fault (xs 1) (bz (xs 2)) (bz (xs 3))).1), (0, .ref b), (1, .ref o), (2, .ref q), (3, .ref t), (4, .int (0 : Int32))]) hx hb dL_law_303 hl (by decide) rfl (fun ls hl => ?_)
  refine lv_aload_n hx hb dL_law_305 rfl (lv_at hl 3 rfl) ?_
  refine lv_aload_n hx hb dL_law_306 rfl (lv_at hl 1 rfl) ?_
  refine lv_iload hx hb dL_law_307 (lv_at hl 5 rfl) ?_
  refine lv_iconst (v := 1) hx hb dL_law_309 (by decide) ?_
  refine lv_iadd hx hb dL_law_310 ?_
  refine x_sld hx hb hX hbs hbl hS (i := 1) (by decide) (by unfold vp_in; decide) dL_law_311 ?_
  refine lv_aload_n hx hb dL_law_312 rfl (lv_at hl 1 rfl) ?_
  refine lv_iload hx hb dL_law_313 (lv_at hl 5 rfl) ?_
  refine lv_iconst (v := 2) hx hb dL_law_315 (by decide) ?_
  refine lv_iadd hx hb dL_law_316 ?_
  refine x_sld hx hb hX hbs hbl hS (i := 2) (by decide) (by unfold vp_in; decide) dL_law_317 ?_
  refine x_bz hx hb dL_law_318 dL_law_321 dL_law_322 dL_law_325 ?_
  refine lv_aload_n hx hb dL_law_326 rfl (lv_at hl 1 rfl) ?_
  refine lv_iload hx hb dL_law_327 (lv_at hl 5 rfl) ?_
  refine lv_iconst (v := 3) hx hb dL_law_329 (by decide) ?_
  refine lv_iadd hx hb dL_law_330 ?_
  refine x_sld hx hb hX hbs hbl hS (i := 3) (by decide) (by unfold vp_in; decide) dL_law_331 ?_
  refine x_bz hx hb dL_law_332 dL_law_335 dL_law_336 dL_law_339 ?_
  refine x_callx (va_runV (As := [.int (xs 1), .int (bz (xs 2)), .int (bz (xs 3))]) (rest := []) ⟨hx, hb, hml, hown, hts⟩ (c_X8_fault l D cy lo n u q (by omega) (by omega) 0 hM hB hF (xs 1) (bz (xs 2)) (bz (xs 3)) bz_01) (cwV 3 hts gL_law_X8_fault rfl rfl rfl (by decide +kernel) ⟨Nat.le_of_ble_eq_true rfl, Nat.le_of_ble_eq_true rfl⟩) (preV hP hK (x_recv (ci := 8) (q := (RX8, TX8, 8)) hK.1 hP (by omega) (by omega) rfl hM.self)) rfl rfl hl.1 rfl (lv_room (Nat.le_of_ble_eq_true rfl)) dL_law_340 ⟨by show _ ≤ 662673; omega, by show _ ≤ 7114216; omega⟩) hS (fun v2 u2 H locs hX2 hP hS => ?_)
  obtain ⟨hth, hans, hu2⟩ := hX2
  obtain ⟨n2, hn2⟩ : ∃ n2, n2 = n := ⟨n, rfl⟩
  rw [← hn2] at hP
  refine lv_istore (lv' := [(6, .int v2), (5, .int (r_fault (xs 1) (bz (xs 2)) (bz (xs 3))).1), (0, .ref b), (1, .ref o), (2, .ref q), (3, .ref t), (4, .int (0 : Int32))]) hx hb dL_law_343 hl (by decide) rfl (fun ls hl => ?_)
  refine lv_aload_n hx hb dL_law_345 rfl (lv_at hl 4 rfl) ?_
  obtain ⟨fs2, hfs2⟩ := hth
  refine x_calli (va_runV (As := []) (rest := []) ⟨hx, hb, hml, hown, hts⟩ (c_X8_thrown l D cy lo n2 u2 q (by omega) (by omega) _ fs2 hfs2) (cwV 0 hts gL_law_X8_thrown rfl rfl rfl (by decide +kernel) ⟨Nat.le_of_ble_eq_true rfl, Nat.le_of_ble_eq_true rfl⟩) (preV hP hK (x_recv (ci := 8) (q := (RX8, TX8, 8)) hK.1 hP (by omega) (by omega) rfl hfs2)) rfl rfl hl.1 rfl (lv_room (Nat.le_of_ble_eq_true rfl)) dL_law_346 ⟨by show _ ≤ 662673; omega, by show _ ≤ 7114216; omega⟩) hS (fun H locs hP hS => ?_)
  refine lv_iload hx hb dL_law_349 (lv_at hl 1 rfl) ?_
  refine lv_icmp_eq (tgt := 356) hx hb dL_law_351 (by decide) (fun _ => ?_) (fun h9 => absurd rfl h9)
  refine lv_iload hx hb dL_law_356 (lv_at hl 1 rfl) ?_
  refine lv_if_ne (tgt := 380) hx hb dL_law_358 (by decide) (fun _ => ?_) (fun h0 => ?_)
  · refine lv_goto (tgt := 1794) hx hb dL_law_380 (by decide) ?_
    exact kk H locs ls _ _ (by omega) (by omega) (lv_sub hl [2, 6] rfl) hS
  · refine lv_aload_n hx hb dL_law_361 rfl (lv_at hl 5 rfl) ?_
    refine lv_iconst (v := 0) hx hb dL_law_362 (by decide) ?_
    obtain ⟨f9, hf9, hg9⟩ := hf
    have hut : u2 t = .inl (cy 7, 1, .inr (.inl f9)) := (hu2 t (by omega)).trans hf9
    refine x_lald hx hb hK.1 hP (by omega) (by omega) 7 hut rfl (cl_of_nI (i := 0) rfl (by omega)) (vp_in_of_nI (i := 0) rfl (by omega) (by omega)) dL_law_363 ?_
    refine lv_iload hx hb dL_law_364 (lv_at hl 0 rfl) ?_
    refine x_bl hx hb dL_law_366 dL_law_369 dL_law_370 dL_law_373 ?_
    rw [bl_ok (hans h0) (hg9 h0) fault_2]
    refine W.lcmp hx hb dL_law_374 ?_
    rw [cmp_rf]
    refine lv_if_eq (tgt := 380) hx hb dL_law_375 (by decide) (fun _ => ?_) (fun h9 => absurd rfl h9)
    refine lv_goto (tgt := 1794) hx hb dL_law_380 (by decide) ?_
    exact kk H locs ls _ _ (by omega) (by omega) (lv_sub hl [2, 6] rfl) hS
set_option maxRecDepth 100000 in
set_option maxHeartbeats 1000000 in
/-- case 2: well -/
theorem lw_c2 {p : Program} {l : Launch} {e : Env} {s : State} {m : MethodId} {below : List Frame} {meth : Method} {c : Code} {Q : State → Prop} {D : va_G} {cy : Nat → ClassId} {b : Nat} {xs : Nat → Int32} {lo n o q t : Nat} {w : Nat → va_E} (hfl : l.stackTraces = false) (hC : LC D cy p s m c b 6 xs lo) (hI : IV cy w lo n o q t) {H : Heap} {locs : List Loc} {ls : Array Slot} {cells slots : Nat} (hce : s.heap.size + cells = lo + n) (hsl : slots ≤ 2000) (hP : va_P D vwCl (rl lo n w) H) (hS : va_S (fun q : Nat => lo ≤ q) s.heap H locs) (hl : lv_has ls 9 [(0, .ref b), (1, .ref o), (2, .ref q), (3, .ref t), (4, .int (0 : Int32))])
    (kk : ∀ (H : Heap) (locs : List Loc) (ls : Array Slot) (cells slots : Nat), cells ≤ 3000 → slots ≤ 9000 → lv_has ls 9 [(0, .ref b), (4, .int (0 : Int32))] → va_S (fun q : Nat => lo ≤ q) s.heap H locs → W p l e room_1 s m #[Value.ref b] below meth c H locs cells slots Q (F0 m 1794 ls [])) : W p l e room_1 s m #[Value.ref b] below meth c H locs cells slots Q (F0 m 383 ls []) := by
  obtain ⟨hx, hb, hml, hown, hts, htl, hKI, hXK, hZ, hY, hX, hbs, hlo⟩ := id hC
  have hbl : b < lo := by omega
  have hK : KK D cy s := hKI.1
  obtain ⟨ho, hq, ht, hn, hpw, hM, hB, hF, ht0⟩ := id hI
  refine lv_aload_n hx hb dL_law_383 rfl (lv_at hl 1 rfl) ?_
  refine lv_aload_n hx hb dL_law_384 rfl (lv_at hl 0 rfl) ?_
  refine lv_iload hx hb dL_law_385 (lv_at hl 4 rfl) ?_
  refine lv_iconst (v := 1) hx hb dL_law_387 (by decide) ?_
  refine lv_iadd hx hb dL_law_388 ?_
  refine x_sld hx hb hX hbs hbl hS (i := 1) (by decide) (by unfold vp_in; decide) dL_law_389 ?_
  refine lv_aload_n hx hb dL_law_390 rfl (lv_at hl 0 rfl) ?_
  refine lv_iload hx hb dL_law_391 (lv_at hl 4 rfl) ?_
  refine lv_iconst (v := 2) hx hb dL_law_393 (by decide) ?_
  refine lv_iadd hx hb dL_law_394 ?_
  refine x_sld hx hb hX hbs hbl hS (i := 2) (by decide) (by unfold vp_in; decide) dL_law_395 ?_
  refine lv_aload_n hx hb dL_law_396 rfl (lv_at hl 3 rfl) ?_
  have hP1 : va_P D vwCl (rl lo n (pw cy w o G0 G0 P0)) H := by rw [hpw]; exact hP
  refine x_szn (by omega) (by omega) hP (fun hz0 => ?_)
  refine x_callY (vx_runSW (As := [.ref o, .int (xs 1), .int (xs 2), .ref t]) (rest := []) ⟨hx, hb, hml, hown, hts⟩ (c_L_well l hfl D cy lo n w o t (by omega) (by omega) (by omega) (by omega) (by omega) _ ht0 (xs 1) (xs 2)) (vx_cwSW 4 hts gL_law_L_well rfl rfl rfl (by decide +kernel) ⟨Nat.le_of_ble_eq_true rfl, Nat.le_of_ble_eq_true rfl⟩) (preSY hz0 hP1 hK hXK (hZ.kept hS.2.1) hY) rfl rfl hl.1 rfl (lv_room (Nat.le_of_ble_eq_true rfl)) dL_law_397 ⟨by show _ ≤ 662673; omega, by show _ ≤ 7114216; omega⟩) hS (fun u H locs hf hu hP hzS hS => ?_)
  have hM : MM cy u q 0 5 0 0 0 := hM.ext (fun a ha => hu a (by omega) (by omega))
  have hB : LB cy u q := hB.ext (hu _ (by omega) (by omega))
  have hF : FM cy u (q + 1) 0 300 := hF.ext (fun a h1 h2 => hu a (by omega) (by omega))
  refine lv_istore (lv' := [(5, .int (r_well (xs 1) (xs 2)).1), (0, .ref b), (1, .ref o), (2, .ref q), (3, .ref t), (4, .int (0 : Int32))]) hx hb dL_law_400 hl (by decide) rfl (fun ls hl => ?_)
  refine lv_aload_n hx hb dL_law_402 rfl (lv_at hl 3 rfl) ?_
  refine lv_aload_n hx hb dL_law_403 rfl (lv_at hl 1 rfl) ?_
  refine lv_iload hx hb dL_law_404 (lv_at hl 5 rfl) ?_
  refine lv_iconst (v := 1) hx hb dL_law_406 (by decide) ?_
  refine lv_iadd hx hb dL_law_407 ?_
  refine x_sld hx hb hX hbs hbl hS (i := 1) (by decide) (by unfold vp_in; decide) dL_law_408 ?_
  refine lv_aload_n hx hb dL_law_409 rfl (lv_at hl 1 rfl) ?_
  refine lv_iload hx hb dL_law_410 (lv_at hl 5 rfl) ?_
  refine lv_iconst (v := 2) hx hb dL_law_412 (by decide) ?_
  refine lv_iadd hx hb dL_law_413 ?_
  refine x_sld hx hb hX hbs hbl hS (i := 2) (by decide) (by unfold vp_in; decide) dL_law_414 ?_
  refine x_callx (va_runV (As := [.int (xs 1), .int (xs 2)]) (rest := []) ⟨hx, hb, hml, hown, hts⟩ (c_X8_well l D cy lo n u q (by omega) (by omega) 0 hM hB hF (xs 1) (xs 2)) (cwV 2 hts gL_law_X8_well rfl rfl rfl (by decide +kernel) ⟨Nat.le_of_ble_eq_true rfl, Nat.le_of_ble_eq_true rfl⟩) (preV hP hK (x_recv (ci := 8) (q := (RX8, TX8, 8)) hK.1 hP (by omega) (by omega) rfl hM.self)) rfl rfl hl.1 rfl (lv_room (Nat.le_of_ble_eq_true rfl)) dL_law_415 ⟨by show _ ≤ 662673; omega, by show _ ≤ 7114216; omega⟩) hS (fun v2 u2 H locs hX2 hP hS => ?_)
  obtain ⟨hth, hans, hu2⟩ := hX2
  obtain ⟨n2, hn2⟩ : ∃ n2, n2 = n := ⟨n, rfl⟩
  rw [← hn2] at hP
  refine lv_istore (lv' := [(6, .int v2), (5, .int (r_well (xs 1) (xs 2)).1), (0, .ref b), (1, .ref o), (2, .ref q), (3, .ref t), (4, .int (0 : Int32))]) hx hb dL_law_418 hl (by decide) rfl (fun ls hl => ?_)
  refine lv_aload_n hx hb dL_law_420 rfl (lv_at hl 4 rfl) ?_
  obtain ⟨fs2, hfs2⟩ := hth
  refine x_calli (va_runV (As := []) (rest := []) ⟨hx, hb, hml, hown, hts⟩ (c_X8_thrown l D cy lo n2 u2 q (by omega) (by omega) _ fs2 hfs2) (cwV 0 hts gL_law_X8_thrown rfl rfl rfl (by decide +kernel) ⟨Nat.le_of_ble_eq_true rfl, Nat.le_of_ble_eq_true rfl⟩) (preV hP hK (x_recv (ci := 8) (q := (RX8, TX8, 8)) hK.1 hP (by omega) (by omega) rfl hfs2)) rfl rfl hl.1 rfl (lv_room (Nat.le_of_ble_eq_true rfl)) dL_law_421 ⟨by show _ ≤ 662673; omega, by show _ ≤ 7114216; omega⟩) hS (fun H locs hP hS => ?_)
  refine lv_iload hx hb dL_law_424 (lv_at hl 1 rfl) ?_
  refine lv_icmp_eq (tgt := 431) hx hb dL_law_426 (by decide) (fun _ => ?_) (fun h9 => absurd rfl h9)
  refine lv_iload hx hb dL_law_431 (lv_at hl 1 rfl) ?_
  refine lv_if_ne (tgt := 448) hx hb dL_law_433 (by decide) (fun _ => ?_) (fun h0 => ?_)
  · refine lv_goto (tgt := 1794) hx hb dL_law_448 (by decide) ?_
    exact kk H locs ls _ _ (by omega) (by omega) (lv_sub hl [2, 6] rfl) hS
  · refine lv_aload_n hx hb dL_law_436 rfl (lv_at hl 5 rfl) ?_
    refine lv_iconst (v := 0) hx hb dL_law_437 (by decide) ?_
    obtain ⟨f9, hf9, hg9⟩ := hf
    have hut : u2 t = .inl (cy 7, 1, .inr (.inl f9)) := (hu2 t (by omega)).trans hf9
    refine x_lald hx hb hK.1 hP (by omega) (by omega) 7 hut rfl (cl_of_nI (i := 0) rfl (by omega)) (vp_in_of_nI (i := 0) rfl (by omega) (by omega)) dL_law_438 ?_
    refine lv_iload hx hb dL_law_439 (lv_at hl 0 rfl) ?_
    refine lv_i2l (v := f9 0) hx hb dL_law_441 (by rw [hg9 h0, hans h0]) ?_
    refine W.lcmp hx hb dL_law_442 ?_
    rw [cmp_rf]
    refine lv_if_eq (tgt := 448) hx hb dL_law_443 (by decide) (fun _ => ?_) (fun h9 => absurd rfl h9)
    refine lv_goto (tgt := 1794) hx hb dL_law_448 (by decide) ?_
    exact kk H locs ls _ _ (by omega) (by omega) (lv_sub hl [2, 6] rfl) hS
set_option maxRecDepth 100000 in
set_option maxHeartbeats 1000000 in
/-- case 3: choke -/
theorem lw_c3 {p : Program} {l : Launch} {e : Env} {s : State} {m : MethodId} {below : List Frame} {meth : Method} {c : Code} {Q : State → Prop} {D : va_G} {cy : Nat → ClassId} {b : Nat} {xs : Nat → Int32} {lo n o q t : Nat} {w : Nat → va_E} (hfl : l.stackTraces = false) (hC : LC D cy p s m c b 6 xs lo) (hI : IV cy w lo n o q t) {H : Heap} {locs : List Loc} {ls : Array Slot} {cells slots : Nat} (hce : s.heap.size + cells = lo + n) (hsl : slots ≤ 2000) (hP : va_P D vwCl (rl lo n w) H) (hS : va_S (fun q : Nat => lo ≤ q) s.heap H locs) (hl : lv_has ls 9 [(0, .ref b), (1, .ref o), (2, .ref q), (3, .ref t), (4, .int (0 : Int32))])
    (kk : ∀ (H : Heap) (locs : List Loc) (ls : Array Slot) (cells slots : Nat), cells ≤ 3000 → slots ≤ 9000 → lv_has ls 9 [(0, .ref b), (4, .int (0 : Int32))] → va_S (fun q : Nat => lo ≤ q) s.heap H locs → W p l e room_1 s m #[Value.ref b] below meth c H locs cells slots Q (F0 m 1794 ls [])) : W p l e room_1 s m #[Value.ref b] below meth c H locs cells slots Q (F0 m 451 ls []) := by
  obtain ⟨hx, hb, hml, hown, hts, htl, hKI, hXK, hZ, hY, hX, hbs, hlo⟩ := id hC
  have hbl : b < lo := by omega
  have hK : KK D cy s := hKI.1
  obtain ⟨ho, hq, ht, hn, hpw, hM, hB, hF, ht0⟩ := id hI
  refine lv_aload_n hx hb dL_law_451 rfl (lv_at hl 1 rfl) ?_
  refine lv_aload_n hx hb dL_law_452 rfl (lv_at hl 0 rfl) ?_
  refine lv_iload hx hb dL_law_453 (lv_at hl 4 rfl) ?_
  refine lv_iconst (v := 1) hx hb dL_law_455 (by decide) ?_
  refine lv_iadd hx hb dL_law_456 ?_
  refine x_sld hx hb hX hbs hbl hS (i := 1) (by decide) (by unfold vp_in; decide) dL_law_457 ?_
  refine lv_aload_n hx hb dL_law_458 rfl (lv_at hl 0 rfl) ?_
  refine lv_iload hx hb dL_law_459 (lv_at hl 4 rfl) ?_
  refine lv_iconst (v := 2) hx hb dL_law_461 (by decide) ?_
  refine lv_iadd hx hb dL_law_462 ?_
  refine x_sld hx hb hX hbs hbl hS (i := 2) (by decide) (by unfold vp_in; decide) dL_law_463 ?_
  refine lv_aload_n hx hb dL_law_464 rfl (lv_at hl 3 rfl) ?_
  have hP1 : va_P D vwCl (rl lo n (pw cy w o G0 G0 P0)) H := by rw [hpw]; exact hP
  refine x_szn (by omega) (by omega) hP (fun hz0 => ?_)
  refine x_callY (vx_runSW (As := [.ref o, .int (xs 1), .int (xs 2), .ref t]) (rest := []) ⟨hx, hb, hml, hown, hts⟩ (c_L_choke l hfl D cy lo n w o t (by omega) (by omega) (by omega) (by omega) (by omega) _ ht0 (xs 1) (xs 2)) (vx_cwSW 4 hts gL_law_L_choke rfl rfl rfl (by decide +kernel) ⟨Nat.le_of_ble_eq_true rfl, Nat.le_of_ble_eq_true rfl⟩) (preSY hz0 hP1 hK hXK (hZ.kept hS.2.1) hY) rfl rfl hl.1 rfl (lv_room (Nat.le_of_ble_eq_true rfl)) dL_law_465 ⟨by show _ ≤ 662673; omega, by show _ ≤ 7114216; omega⟩) hS (fun u H locs hf hu hP hzS hS => ?_)
  have hM : MM cy u q 0 5 0 0 0 := hM.ext (fun a ha => hu a (by omega) (by omega))
  have hB : LB cy u q := hB.ext (hu _ (by omega) (by omega))
  have hF : FM cy u (q + 1) 0 300 := hF.ext (fun a h1 h2 => hu a (by omega) (by omega))
  refine lv_istore (lv' := [(5, .int (r_choke (xs 1) (xs 2)).1), (0, .ref b), (1, .ref o), (2, .ref q), (3, .ref t), (4, .int (0 : Int32))]) hx hb dL_law_468 hl (by decide) rfl (fun ls hl => ?_)
  refine lv_aload_n hx hb dL_law_470 rfl (lv_at hl 3 rfl) ?_
  refine lv_aload_n hx hb dL_law_471 rfl (lv_at hl 1 rfl) ?_
  refine lv_iload hx hb dL_law_472 (lv_at hl 5 rfl) ?_
  refine lv_iconst (v := 1) hx hb dL_law_474 (by decide) ?_
  refine lv_iadd hx hb dL_law_475 ?_
  refine x_sld hx hb hX hbs hbl hS (i := 1) (by decide) (by unfold vp_in; decide) dL_law_476 ?_
  refine lv_aload_n hx hb dL_law_477 rfl (lv_at hl 1 rfl) ?_
  refine lv_iload hx hb dL_law_478 (lv_at hl 5 rfl) ?_
  refine lv_iconst (v := 2) hx hb dL_law_480 (by decide) ?_
  refine lv_iadd hx hb dL_law_481 ?_
  refine x_sld hx hb hX hbs hbl hS (i := 2) (by decide) (by unfold vp_in; decide) dL_law_482 ?_
  refine x_callx (va_runV (As := [.int (xs 1), .int (xs 2)]) (rest := []) ⟨hx, hb, hml, hown, hts⟩ (c_X8_choke l D cy lo n u q (by omega) (by omega) 0 hM hB hF (xs 1) (xs 2)) (cwV 2 hts gL_law_X8_choke rfl rfl rfl (by decide +kernel) ⟨Nat.le_of_ble_eq_true rfl, Nat.le_of_ble_eq_true rfl⟩) (preV hP hK (x_recv (ci := 8) (q := (RX8, TX8, 8)) hK.1 hP (by omega) (by omega) rfl hM.self)) rfl rfl hl.1 rfl (lv_room (Nat.le_of_ble_eq_true rfl)) dL_law_483 ⟨by show _ ≤ 662673; omega, by show _ ≤ 7114216; omega⟩) hS (fun v2 u2 H locs hX2 hP hS => ?_)
  obtain ⟨hth, hans, hu2⟩ := hX2
  obtain ⟨n2, hn2⟩ : ∃ n2, n2 = n := ⟨n, rfl⟩
  rw [← hn2] at hP
  refine lv_istore (lv' := [(6, .int v2), (5, .int (r_choke (xs 1) (xs 2)).1), (0, .ref b), (1, .ref o), (2, .ref q), (3, .ref t), (4, .int (0 : Int32))]) hx hb dL_law_486 hl (by decide) rfl (fun ls hl => ?_)
  refine lv_aload_n hx hb dL_law_488 rfl (lv_at hl 4 rfl) ?_
  obtain ⟨fs2, hfs2⟩ := hth
  refine x_calli (va_runV (As := []) (rest := []) ⟨hx, hb, hml, hown, hts⟩ (c_X8_thrown l D cy lo n2 u2 q (by omega) (by omega) _ fs2 hfs2) (cwV 0 hts gL_law_X8_thrown rfl rfl rfl (by decide +kernel) ⟨Nat.le_of_ble_eq_true rfl, Nat.le_of_ble_eq_true rfl⟩) (preV hP hK (x_recv (ci := 8) (q := (RX8, TX8, 8)) hK.1 hP (by omega) (by omega) rfl hfs2)) rfl rfl hl.1 rfl (lv_room (Nat.le_of_ble_eq_true rfl)) dL_law_489 ⟨by show _ ≤ 662673; omega, by show _ ≤ 7114216; omega⟩) hS (fun H locs hP hS => ?_)
  refine lv_iload hx hb dL_law_492 (lv_at hl 1 rfl) ?_
  refine lv_icmp_eq (tgt := 499) hx hb dL_law_494 (by decide) (fun _ => ?_) (fun h9 => absurd rfl h9)
  refine lv_iload hx hb dL_law_499 (lv_at hl 1 rfl) ?_
  refine lv_if_ne (tgt := 516) hx hb dL_law_501 (by decide) (fun _ => ?_) (fun h0 => ?_)
  · refine lv_goto (tgt := 1794) hx hb dL_law_516 (by decide) ?_
    exact kk H locs ls _ _ (by omega) (by omega) (lv_sub hl [2, 6] rfl) hS
  · refine lv_aload_n hx hb dL_law_504 rfl (lv_at hl 5 rfl) ?_
    refine lv_iconst (v := 0) hx hb dL_law_505 (by decide) ?_
    obtain ⟨f9, hf9, hg9⟩ := hf
    have hut : u2 t = .inl (cy 7, 1, .inr (.inl f9)) := (hu2 t (by omega)).trans hf9
    refine x_lald hx hb hK.1 hP (by omega) (by omega) 7 hut rfl (cl_of_nI (i := 0) rfl (by omega)) (vp_in_of_nI (i := 0) rfl (by omega) (by omega)) dL_law_506 ?_
    refine lv_iload hx hb dL_law_507 (lv_at hl 0 rfl) ?_
    refine lv_i2l (v := f9 0) hx hb dL_law_509 (by rw [hg9 h0, hans h0]) ?_
    refine W.lcmp hx hb dL_law_510 ?_
    rw [cmp_rf]
    refine lv_if_eq (tgt := 516) hx hb dL_law_511 (by decide) (fun _ => ?_) (fun h9 => absurd rfl h9)
    refine lv_goto (tgt := 1794) hx hb dL_law_516 (by decide) ?_
    exact kk H locs ls _ _ (by omega) (by omega) (lv_sub hl [2, 6] rfl) hS
set_option maxRecDepth 100000 in
set_option maxHeartbeats 1000000 in
/-- case 4: rank -/
theorem lw_c4 {p : Program} {l : Launch} {e : Env} {s : State} {m : MethodId} {below : List Frame} {meth : Method} {c : Code} {Q : State → Prop} {D : va_G} {cy : Nat → ClassId} {b : Nat} {xs : Nat → Int32} {lo n o q t : Nat} {w : Nat → va_E} (hfl : l.stackTraces = false) (hC : LC D cy p s m c b 6 xs lo) (hI : IV cy w lo n o q t) {H : Heap} {locs : List Loc} {ls : Array Slot} {cells slots : Nat} (hce : s.heap.size + cells = lo + n) (hsl : slots ≤ 2000) (hP : va_P D vwCl (rl lo n w) H) (hS : va_S (fun q : Nat => lo ≤ q) s.heap H locs) (hl : lv_has ls 9 [(0, .ref b), (1, .ref o), (2, .ref q), (3, .ref t), (4, .int (0 : Int32))])
    (kk : ∀ (H : Heap) (locs : List Loc) (ls : Array Slot) (cells slots : Nat), cells ≤ 3000 → slots ≤ 9000 → lv_has ls 9 [(0, .ref b), (4, .int (0 : Int32))] → va_S (fun q : Nat => lo ≤ q) s.heap H locs → W p l e room_1 s m #[Value.ref b] below meth c H locs cells slots Q (F0 m 1794 ls [])) : W p l e room_1 s m #[Value.ref b] below meth c H locs cells slots Q (F0 m 519 ls []) := by
  obtain ⟨hx, hb, hml, hown, hts, htl, hKI, hXK, hZ, hY, hX, hbs, hlo⟩ := id hC
  have hbl : b < lo := by omega
  have hK : KK D cy s := hKI.1
  obtain ⟨ho, hq, ht, hn, hpw, hM, hB, hF, ht0⟩ := id hI
  refine lv_aload_n hx hb dL_law_519 rfl (lv_at hl 1 rfl) ?_
  refine lv_aload_n hx hb dL_law_520 rfl (lv_at hl 0 rfl) ?_
  refine lv_iload hx hb dL_law_521 (lv_at hl 4 rfl) ?_
  refine lv_iconst (v := 1) hx hb dL_law_523 (by decide) ?_
  refine lv_iadd hx hb dL_law_524 ?_
  refine x_sld hx hb hX hbs hbl hS (i := 1) (by decide) (by unfold vp_in; decide) dL_law_525 ?_
  refine lv_aload_n hx hb dL_law_526 rfl (lv_at hl 0 rfl) ?_
  refine lv_iload hx hb dL_law_527 (lv_at hl 4 rfl) ?_
  refine lv_iconst (v := 2) hx hb dL_law_529 (by decide) ?_
  refine lv_iadd hx hb dL_law_530 ?_
  refine x_sld hx hb hX hbs hbl hS (i := 2) (by decide) (by unfold vp_in; decide) dL_law_531 ?_
  refine lv_aload_n hx hb dL_law_532 rfl (lv_at hl 3 rfl) ?_
  have hP1 : va_P D vwCl (rl lo n (pw cy w o G0 G0 P0)) H := by rw [hpw]; exact hP
  refine x_szn (by omega) (by omega) hP (fun hz0 => ?_)
  refine x_callY (vx_runSW (As := [.ref o, .int (xs 1), .int (xs 2), .ref t]) (rest := []) ⟨hx, hb, hml, hown, hts⟩ (c_L_rank l hfl D cy lo n w o t (by omega) (by omega) (by omega) (by omega) (by omega) _ ht0 (xs 1) (xs 2)) (vx_cwSW 4 hts gL_law_L_rank rfl rfl rfl (by decide +kernel) ⟨Nat.le_of_ble_eq_true rfl, Nat.le_of_ble_eq_true rfl⟩) (preSY hz0 hP1 hK hXK (hZ.kept hS.2.1) hY) rfl rfl hl.1 rfl (lv_room (Nat.le_of_ble_eq_true rfl)) dL_law_533 ⟨by show _ ≤ 662673; omega, by show _ ≤ 7114216; omega⟩) hS (fun u H locs hf hu hP hzS hS => ?_)
  have hM : MM cy u q 0 5 0 0 0 := hM.ext (fun a ha => hu a (by omega) (by omega))
  have hB : LB cy u q := hB.ext (hu _ (by omega) (by omega))
  have hF : FM cy u (q + 1) 0 300 := hF.ext (fun a h1 h2 => hu a (by omega) (by omega))
  refine lv_istore (lv' := [(5, .int (r_rank (xs 1) (xs 2)).1), (0, .ref b), (1, .ref o), (2, .ref q), (3, .ref t), (4, .int (0 : Int32))]) hx hb dL_law_536 hl (by decide) rfl (fun ls hl => ?_)
  refine lv_aload_n hx hb dL_law_538 rfl (lv_at hl 3 rfl) ?_
  refine lv_aload_n hx hb dL_law_539 rfl (lv_at hl 1 rfl) ?_
  refine lv_iload hx hb dL_law_540 (lv_at hl 5 rfl) ?_
  refine lv_iconst (v := 1) hx hb dL_law_542 (by decide) ?_
  refine lv_iadd hx hb dL_law_543 ?_
  refine x_sld hx hb hX hbs hbl hS (i := 1) (by decide) (by unfold vp_in; decide) dL_law_544 ?_
  refine lv_aload_n hx hb dL_law_545 rfl (lv_at hl 1 rfl) ?_
  refine lv_iload hx hb dL_law_546 (lv_at hl 5 rfl) ?_
  refine lv_iconst (v := 2) hx hb dL_law_548 (by decide) ?_
  refine lv_iadd hx hb dL_law_549 ?_
  refine x_sld hx hb hX hbs hbl hS (i := 2) (by decide) (by unfold vp_in; decide) dL_law_550 ?_
  refine x_callx (va_runV (As := [.int (xs 1), .int (xs 2)]) (rest := []) ⟨hx, hb, hml, hown, hts⟩ (c_X8_rank l D cy lo n u q (by omega) (by omega) 0 hM hB hF (xs 1) (xs 2)) (cwV 2 hts gL_law_X8_rank rfl rfl rfl (by decide +kernel) ⟨Nat.le_of_ble_eq_true rfl, Nat.le_of_ble_eq_true rfl⟩) (preV hP hK (x_recv (ci := 8) (q := (RX8, TX8, 8)) hK.1 hP (by omega) (by omega) rfl hM.self)) rfl rfl hl.1 rfl (lv_room (Nat.le_of_ble_eq_true rfl)) dL_law_551 ⟨by show _ ≤ 662673; omega, by show _ ≤ 7114216; omega⟩) hS (fun v2 u2 H locs hX2 hP hS => ?_)
  obtain ⟨hth, hans, hu2⟩ := hX2
  obtain ⟨n2, hn2⟩ : ∃ n2, n2 = n := ⟨n, rfl⟩
  rw [← hn2] at hP
  refine lv_istore (lv' := [(6, .int v2), (5, .int (r_rank (xs 1) (xs 2)).1), (0, .ref b), (1, .ref o), (2, .ref q), (3, .ref t), (4, .int (0 : Int32))]) hx hb dL_law_554 hl (by decide) rfl (fun ls hl => ?_)
  refine lv_aload_n hx hb dL_law_556 rfl (lv_at hl 4 rfl) ?_
  obtain ⟨fs2, hfs2⟩ := hth
  refine x_calli (va_runV (As := []) (rest := []) ⟨hx, hb, hml, hown, hts⟩ (c_X8_thrown l D cy lo n2 u2 q (by omega) (by omega) _ fs2 hfs2) (cwV 0 hts gL_law_X8_thrown rfl rfl rfl (by decide +kernel) ⟨Nat.le_of_ble_eq_true rfl, Nat.le_of_ble_eq_true rfl⟩) (preV hP hK (x_recv (ci := 8) (q := (RX8, TX8, 8)) hK.1 hP (by omega) (by omega) rfl hfs2)) rfl rfl hl.1 rfl (lv_room (Nat.le_of_ble_eq_true rfl)) dL_law_557 ⟨by show _ ≤ 662673; omega, by show _ ≤ 7114216; omega⟩) hS (fun H locs hP hS => ?_)
  refine lv_iload hx hb dL_law_560 (lv_at hl 1 rfl) ?_
  refine lv_icmp_eq (tgt := 567) hx hb dL_law_562 (by decide) (fun _ => ?_) (fun h9 => absurd rfl h9)
  refine lv_iload hx hb dL_law_567 (lv_at hl 1 rfl) ?_
  refine lv_if_ne (tgt := 584) hx hb dL_law_569 (by decide) (fun _ => ?_) (fun h0 => ?_)
  · refine lv_goto (tgt := 1794) hx hb dL_law_584 (by decide) ?_
    exact kk H locs ls _ _ (by omega) (by omega) (lv_sub hl [2, 6] rfl) hS
  · refine lv_aload_n hx hb dL_law_572 rfl (lv_at hl 5 rfl) ?_
    refine lv_iconst (v := 0) hx hb dL_law_573 (by decide) ?_
    obtain ⟨f9, hf9, hg9⟩ := hf
    have hut : u2 t = .inl (cy 7, 1, .inr (.inl f9)) := (hu2 t (by omega)).trans hf9
    refine x_lald hx hb hK.1 hP (by omega) (by omega) 7 hut rfl (cl_of_nI (i := 0) rfl (by omega)) (vp_in_of_nI (i := 0) rfl (by omega) (by omega)) dL_law_574 ?_
    refine lv_iload hx hb dL_law_575 (lv_at hl 0 rfl) ?_
    refine lv_i2l (v := f9 0) hx hb dL_law_577 (by rw [hg9 h0, hans h0]) ?_
    refine W.lcmp hx hb dL_law_578 ?_
    rw [cmp_rf]
    refine lv_if_eq (tgt := 584) hx hb dL_law_579 (by decide) (fun _ => ?_) (fun h9 => absurd rfl h9)
    refine lv_goto (tgt := 1794) hx hb dL_law_584 (by decide) ?_
    exact kk H locs ls _ _ (by omega) (by omega) (lv_sub hl [2, 6] rfl) hS
set_option maxRecDepth 100000 in
set_option maxHeartbeats 1000000 in
/-- case 5: test -/
theorem lw_c5 {p : Program} {l : Launch} {e : Env} {s : State} {m : MethodId} {below : List Frame} {meth : Method} {c : Code} {Q : State → Prop} {D : va_G} {cy : Nat → ClassId} {b : Nat} {xs : Nat → Int32} {lo n o q t : Nat} {w : Nat → va_E} (hfl : l.stackTraces = false) (hC : LC D cy p s m c b 6 xs lo) (hI : IV cy w lo n o q t) {H : Heap} {locs : List Loc} {ls : Array Slot} {cells slots : Nat} (hce : s.heap.size + cells = lo + n) (hsl : slots ≤ 2000) (hP : va_P D vwCl (rl lo n w) H) (hS : va_S (fun q : Nat => lo ≤ q) s.heap H locs) (hl : lv_has ls 9 [(0, .ref b), (1, .ref o), (2, .ref q), (3, .ref t), (4, .int (0 : Int32))])
    (kk : ∀ (H : Heap) (locs : List Loc) (ls : Array Slot) (cells slots : Nat), cells ≤ 3000 → slots ≤ 9000 → lv_has ls 9 [(0, .ref b), (4, .int (0 : Int32))] → va_S (fun q : Nat => lo ≤ q) s.heap H locs → W p l e room_1 s m #[Value.ref b] below meth c H locs cells slots Q (F0 m 1794 ls [])) : W p l e room_1 s m #[Value.ref b] below meth c H locs cells slots Q (F0 m 587 ls []) := by
  obtain ⟨hx, hb, hml, hown, hts, htl, hKI, hXK, hZ, hY, hX, hbs, hlo⟩ := id hC
  have hbl : b < lo := by omega
  have hK : KK D cy s := hKI.1
  obtain ⟨ho, hq, ht, hn, hpw, hM, hB, hF, ht0⟩ := id hI
  refine lv_aload_n hx hb dL_law_587 rfl (lv_at hl 1 rfl) ?_
  refine lv_aload_n hx hb dL_law_588 rfl (lv_at hl 0 rfl) ?_
  refine lv_iload hx hb dL_law_589 (lv_at hl 4 rfl) ?_
  refine lv_iconst (v := 1) hx hb dL_law_591 (by decide) ?_
  refine lv_iadd hx hb dL_law_592 ?_
  refine x_sld hx hb hX hbs hbl hS (i := 1) (by decide) (by unfold vp_in; decide) dL_law_593 ?_
  refine lv_aload_n hx hb dL_law_594 rfl (lv_at hl 3 rfl) ?_
  have hP1 : va_P D vwCl (rl lo n (pw cy w o G0 G0 P0)) H := by rw [hpw]; exact hP
  refine x_szn (by omega) (by omega) hP (fun hz0 => ?_)
  refine x_callY (vx_runSW (As := [.ref o, .int (xs 1), .ref t]) (rest := []) ⟨hx, hb, hml, hown, hts⟩ (c_L_test l hfl D cy lo n w o t (by omega) (by omega) (by omega) (by omega) (by omega) _ ht0 (xs 1)) (vx_cwSW 3 hts gL_law_L_test rfl rfl rfl (by decide +kernel) ⟨Nat.le_of_ble_eq_true rfl, Nat.le_of_ble_eq_true rfl⟩) (preSY hz0 hP1 hK hXK (hZ.kept hS.2.1) hY) rfl rfl hl.1 rfl (lv_room (Nat.le_of_ble_eq_true rfl)) dL_law_595 ⟨by show _ ≤ 662673; omega, by show _ ≤ 7114216; omega⟩) hS (fun u H locs hf hu hP hzS hS => ?_)
  have hM : MM cy u q 0 5 0 0 0 := hM.ext (fun a ha => hu a (by omega) (by omega))
  have hB : LB cy u q := hB.ext (hu _ (by omega) (by omega))
  have hF : FM cy u (q + 1) 0 300 := hF.ext (fun a h1 h2 => hu a (by omega) (by omega))
  refine lv_istore (lv' := [(5, .int (r_test (xs 1)).1), (0, .ref b), (1, .ref o), (2, .ref q), (3, .ref t), (4, .int (0 : Int32))]) hx hb dL_law_598 hl (by decide) rfl (fun ls hl => ?_)
  refine lv_aload_n hx hb dL_law_600 rfl (lv_at hl 3 rfl) ?_
  refine lv_aload_n hx hb dL_law_601 rfl (lv_at hl 1 rfl) ?_
  refine lv_iload hx hb dL_law_602 (lv_at hl 5 rfl) ?_
  refine lv_iconst (v := 1) hx hb dL_law_604 (by decide) ?_
  refine lv_iadd hx hb dL_law_605 ?_
  refine x_sld hx hb hX hbs hbl hS (i := 1) (by decide) (by unfold vp_in; decide) dL_law_606 ?_
  refine x_callx (va_runV (As := [.int (xs 1)]) (rest := []) ⟨hx, hb, hml, hown, hts⟩ (c_X8_test l D cy lo n u q (by omega) (by omega) 0 hM hB hF (xs 1)) (cwV 1 hts gL_law_X8_test rfl rfl rfl (by decide +kernel) ⟨Nat.le_of_ble_eq_true rfl, Nat.le_of_ble_eq_true rfl⟩) (preV hP hK (x_recv (ci := 8) (q := (RX8, TX8, 8)) hK.1 hP (by omega) (by omega) rfl hM.self)) rfl rfl hl.1 rfl (lv_room (Nat.le_of_ble_eq_true rfl)) dL_law_607 ⟨by show _ ≤ 662673; omega, by show _ ≤ 7114216; omega⟩) hS (fun v2 u2 H locs hX2 hP hS => ?_)
  obtain ⟨hth, hans, hu2⟩ := hX2
  obtain ⟨n2, hn2⟩ : ∃ n2, n2 = n := ⟨n, rfl⟩
  rw [← hn2] at hP
  refine lv_istore (lv' := [(6, .int v2), (5, .int (r_test (xs 1)).1), (0, .ref b), (1, .ref o), (2, .ref q), (3, .ref t), (4, .int (0 : Int32))]) hx hb dL_law_610 hl (by decide) rfl (fun ls hl => ?_)
  refine lv_aload_n hx hb dL_law_612 rfl (lv_at hl 4 rfl) ?_
  obtain ⟨fs2, hfs2⟩ := hth
  refine x_calli (va_runV (As := []) (rest := []) ⟨hx, hb, hml, hown, hts⟩ (c_X8_thrown l D cy lo n2 u2 q (by omega) (by omega) _ fs2 hfs2) (cwV 0 hts gL_law_X8_thrown rfl rfl rfl (by decide +kernel) ⟨Nat.le_of_ble_eq_true rfl, Nat.le_of_ble_eq_true rfl⟩) (preV hP hK (x_recv (ci := 8) (q := (RX8, TX8, 8)) hK.1 hP (by omega) (by omega) rfl hfs2)) rfl rfl hl.1 rfl (lv_room (Nat.le_of_ble_eq_true rfl)) dL_law_613 ⟨by show _ ≤ 662673; omega, by show _ ≤ 7114216; omega⟩) hS (fun H locs hP hS => ?_)
  refine lv_iload hx hb dL_law_616 (lv_at hl 1 rfl) ?_
  refine lv_icmp_eq (tgt := 623) hx hb dL_law_618 (by decide) (fun _ => ?_) (fun h9 => absurd rfl h9)
  refine lv_iload hx hb dL_law_623 (lv_at hl 1 rfl) ?_
  refine lv_if_ne (tgt := 647) hx hb dL_law_625 (by decide) (fun _ => ?_) (fun h0 => ?_)
  · refine lv_goto (tgt := 1794) hx hb dL_law_647 (by decide) ?_
    exact kk H locs ls _ _ (by omega) (by omega) (lv_sub hl [2, 6] rfl) hS
  · refine lv_aload_n hx hb dL_law_628 rfl (lv_at hl 5 rfl) ?_
    refine lv_iconst (v := 0) hx hb dL_law_629 (by decide) ?_
    obtain ⟨f9, hf9, hg9⟩ := hf
    have hut : u2 t = .inl (cy 7, 1, .inr (.inl f9)) := (hu2 t (by omega)).trans hf9
    refine x_lald hx hb hK.1 hP (by omega) (by omega) 7 hut rfl (cl_of_nI (i := 0) rfl (by omega)) (vp_in_of_nI (i := 0) rfl (by omega) (by omega)) dL_law_630 ?_
    refine lv_iload hx hb dL_law_631 (lv_at hl 0 rfl) ?_
    refine x_bl hx hb dL_law_633 dL_law_636 dL_law_637 dL_law_640 ?_
    rw [bl_ok (hans h0) (hg9 h0) test_2]
    refine W.lcmp hx hb dL_law_641 ?_
    rw [cmp_rf]
    refine lv_if_eq (tgt := 647) hx hb dL_law_642 (by decide) (fun _ => ?_) (fun h9 => absurd rfl h9)
    refine lv_goto (tgt := 1794) hx hb dL_law_647 (by decide) ?_
    exact kk H locs ls _ _ (by omega) (by omega) (lv_sub hl [2, 6] rfl) hS
set_option maxRecDepth 100000 in
set_option maxHeartbeats 1000000 in
/-- case 6: plug -/
theorem lw_c6 {p : Program} {l : Launch} {e : Env} {s : State} {m : MethodId} {below : List Frame} {meth : Method} {c : Code} {Q : State → Prop} {D : va_G} {cy : Nat → ClassId} {b : Nat} {xs : Nat → Int32} {lo n o q t : Nat} {w : Nat → va_E} (hfl : l.stackTraces = false) (hC : LC D cy p s m c b 6 xs lo) (hI : IV cy w lo n o q t) {H : Heap} {locs : List Loc} {ls : Array Slot} {cells slots : Nat} (hce : s.heap.size + cells = lo + n) (hsl : slots ≤ 2000) (hP : va_P D vwCl (rl lo n w) H) (hS : va_S (fun q : Nat => lo ≤ q) s.heap H locs) (hl : lv_has ls 9 [(0, .ref b), (1, .ref o), (2, .ref q), (3, .ref t), (4, .int (0 : Int32))])
    (kk : ∀ (H : Heap) (locs : List Loc) (ls : Array Slot) (cells slots : Nat), cells ≤ 3000 → slots ≤ 9000 → lv_has ls 9 [(0, .ref b), (4, .int (0 : Int32))] → va_S (fun q : Nat => lo ≤ q) s.heap H locs → W p l e room_1 s m #[Value.ref b] below meth c H locs cells slots Q (F0 m 1794 ls [])) : W p l e room_1 s m #[Value.ref b] below meth c H locs cells slots Q (F0 m 650 ls []) := by
  obtain ⟨hx, hb, hml, hown, hts, htl, hKI, hXK, hZ, hY, hX, hbs, hlo⟩ := id hC
  have hbl : b < lo := by omega
  have hK : KK D cy s := hKI.1
  obtain ⟨ho, hq, ht, hn, hpw, hM, hB, hF, ht0⟩ := id hI
  refine lv_aload_n hx hb dL_law_650 rfl (lv_at hl 1 rfl) ?_
  refine lv_aload_n hx hb dL_law_651 rfl (lv_at hl 0 rfl) ?_
  refine lv_iload hx hb dL_law_652 (lv_at hl 4 rfl) ?_
  refine lv_iconst (v := 1) hx hb dL_law_654 (by decide) ?_
  refine lv_iadd hx hb dL_law_655 ?_
  refine x_sld hx hb hX hbs hbl hS (i := 1) (by decide) (by unfold vp_in; decide) dL_law_656 ?_
  refine lv_aload_n hx hb dL_law_657 rfl (lv_at hl 3 rfl) ?_
  have hP1 : va_P D vwCl (rl lo n (pw cy w o G0 G0 P0)) H := by rw [hpw]; exact hP
  refine x_szn (by omega) (by omega) hP (fun hz0 => ?_)
  refine x_callY (vx_runSW (As := [.ref o, .int (xs 1), .ref t]) (rest := []) ⟨hx, hb, hml, hown, hts⟩ (c_L_plug l hfl D cy lo n w o t (by omega) (by omega) (by omega) (by omega) (by omega) _ ht0 (xs 1)) (vx_cwSW 3 hts gL_law_L_plug rfl rfl rfl (by decide +kernel) ⟨Nat.le_of_ble_eq_true rfl, Nat.le_of_ble_eq_true rfl⟩) (preSY hz0 hP1 hK hXK (hZ.kept hS.2.1) hY) rfl rfl hl.1 rfl (lv_room (Nat.le_of_ble_eq_true rfl)) dL_law_658 ⟨by show _ ≤ 662673; omega, by show _ ≤ 7114216; omega⟩) hS (fun u H locs hf hu hP hzS hS => ?_)
  have hM : MM cy u q 0 5 0 0 0 := hM.ext (fun a ha => hu a (by omega) (by omega))
  have hB : LB cy u q := hB.ext (hu _ (by omega) (by omega))
  have hF : FM cy u (q + 1) 0 300 := hF.ext (fun a h1 h2 => hu a (by omega) (by omega))
  refine lv_istore (lv' := [(5, .int (r_plug (xs 1)).1), (0, .ref b), (1, .ref o), (2, .ref q), (3, .ref t), (4, .int (0 : Int32))]) hx hb dL_law_661 hl (by decide) rfl (fun ls hl => ?_)
  refine lv_aload_n hx hb dL_law_663 rfl (lv_at hl 3 rfl) ?_
  refine lv_aload_n hx hb dL_law_664 rfl (lv_at hl 1 rfl) ?_
  refine lv_iload hx hb dL_law_665 (lv_at hl 5 rfl) ?_
  refine lv_iconst (v := 1) hx hb dL_law_667 (by decide) ?_
  refine lv_iadd hx hb dL_law_668 ?_
  refine x_sld hx hb hX hbs hbl hS (i := 1) (by decide) (by unfold vp_in; decide) dL_law_669 ?_
  refine x_callx (va_runV (As := [.int (xs 1)]) (rest := []) ⟨hx, hb, hml, hown, hts⟩ (c_X8_plug l D cy lo n u q (by omega) (by omega) 0 hM hB hF (xs 1)) (cwV 1 hts gL_law_X8_plug rfl rfl rfl (by decide +kernel) ⟨Nat.le_of_ble_eq_true rfl, Nat.le_of_ble_eq_true rfl⟩) (preV hP hK (x_recv (ci := 8) (q := (RX8, TX8, 8)) hK.1 hP (by omega) (by omega) rfl hM.self)) rfl rfl hl.1 rfl (lv_room (Nat.le_of_ble_eq_true rfl)) dL_law_670 ⟨by show _ ≤ 662673; omega, by show _ ≤ 7114216; omega⟩) hS (fun v2 u2 H locs hX2 hP hS => ?_)
  obtain ⟨hth, hans, hu2⟩ := hX2
  obtain ⟨n2, hn2⟩ : ∃ n2, n2 = n := ⟨n, rfl⟩
  rw [← hn2] at hP
  refine lv_istore (lv' := [(6, .int v2), (5, .int (r_plug (xs 1)).1), (0, .ref b), (1, .ref o), (2, .ref q), (3, .ref t), (4, .int (0 : Int32))]) hx hb dL_law_673 hl (by decide) rfl (fun ls hl => ?_)
  refine lv_aload_n hx hb dL_law_675 rfl (lv_at hl 4 rfl) ?_
  obtain ⟨fs2, hfs2⟩ := hth
  refine x_calli (va_runV (As := []) (rest := []) ⟨hx, hb, hml, hown, hts⟩ (c_X8_thrown l D cy lo n2 u2 q (by omega) (by omega) _ fs2 hfs2) (cwV 0 hts gL_law_X8_thrown rfl rfl rfl (by decide +kernel) ⟨Nat.le_of_ble_eq_true rfl, Nat.le_of_ble_eq_true rfl⟩) (preV hP hK (x_recv (ci := 8) (q := (RX8, TX8, 8)) hK.1 hP (by omega) (by omega) rfl hfs2)) rfl rfl hl.1 rfl (lv_room (Nat.le_of_ble_eq_true rfl)) dL_law_676 ⟨by show _ ≤ 662673; omega, by show _ ≤ 7114216; omega⟩) hS (fun H locs hP hS => ?_)
  refine lv_iload hx hb dL_law_679 (lv_at hl 1 rfl) ?_
  refine lv_icmp_eq (tgt := 686) hx hb dL_law_681 (by decide) (fun _ => ?_) (fun h9 => absurd rfl h9)
  refine lv_iload hx hb dL_law_686 (lv_at hl 1 rfl) ?_
  refine lv_if_ne (tgt := 703) hx hb dL_law_688 (by decide) (fun _ => ?_) (fun h0 => ?_)
  · refine lv_goto (tgt := 1794) hx hb dL_law_703 (by decide) ?_
    exact kk H locs ls _ _ (by omega) (by omega) (lv_sub hl [2, 6] rfl) hS
  · refine lv_aload_n hx hb dL_law_691 rfl (lv_at hl 5 rfl) ?_
    refine lv_iconst (v := 0) hx hb dL_law_692 (by decide) ?_
    obtain ⟨f9, hf9, hg9⟩ := hf
    have hut : u2 t = .inl (cy 7, 1, .inr (.inl f9)) := (hu2 t (by omega)).trans hf9
    refine x_lald hx hb hK.1 hP (by omega) (by omega) 7 hut rfl (cl_of_nI (i := 0) rfl (by omega)) (vp_in_of_nI (i := 0) rfl (by omega) (by omega)) dL_law_693 ?_
    refine lv_iload hx hb dL_law_694 (lv_at hl 0 rfl) ?_
    refine lv_i2l (v := f9 0) hx hb dL_law_696 (by rw [hg9 h0, hans h0]) ?_
    refine W.lcmp hx hb dL_law_697 ?_
    rw [cmp_rf]
    refine lv_if_eq (tgt := 703) hx hb dL_law_698 (by decide) (fun _ => ?_) (fun h9 => absurd rfl h9)
    refine lv_goto (tgt := 1794) hx hb dL_law_703 (by decide) ?_
    exact kk H locs ls _ _ (by omega) (by omega) (lv_sub hl [2, 6] rfl) hS
set_option maxRecDepth 100000 in
set_option maxHeartbeats 1000000 in
/-- case 7: capacity -/
theorem lw_c7 {p : Program} {l : Launch} {e : Env} {s : State} {m : MethodId} {below : List Frame} {meth : Method} {c : Code} {Q : State → Prop} {D : va_G} {cy : Nat → ClassId} {b : Nat} {xs : Nat → Int32} {lo n o q t : Nat} {w : Nat → va_E} (hfl : l.stackTraces = false) (hC : LC D cy p s m c b 6 xs lo) (hI : IV cy w lo n o q t) {H : Heap} {locs : List Loc} {ls : Array Slot} {cells slots : Nat} (hce : s.heap.size + cells = lo + n) (hsl : slots ≤ 2000) (hP : va_P D vwCl (rl lo n w) H) (hS : va_S (fun q : Nat => lo ≤ q) s.heap H locs) (hl : lv_has ls 9 [(0, .ref b), (1, .ref o), (2, .ref q), (3, .ref t), (4, .int (0 : Int32))])
    (kk : ∀ (H : Heap) (locs : List Loc) (ls : Array Slot) (cells slots : Nat), cells ≤ 3000 → slots ≤ 9000 → lv_has ls 9 [(0, .ref b), (4, .int (0 : Int32))] → va_S (fun q : Nat => lo ≤ q) s.heap H locs → W p l e room_1 s m #[Value.ref b] below meth c H locs cells slots Q (F0 m 1794 ls [])) : W p l e room_1 s m #[Value.ref b] below meth c H locs cells slots Q (F0 m 706 ls []) := by
  obtain ⟨hx, hb, hml, hown, hts, htl, hKI, hXK, hZ, hY, hX, hbs, hlo⟩ := id hC
  have hbl : b < lo := by omega
  have hK : KK D cy s := hKI.1
  obtain ⟨ho, hq, ht, hn, hpw, hM, hB, hF, ht0⟩ := id hI
  refine lv_aload_n hx hb dL_law_706 rfl (lv_at hl 1 rfl) ?_
  refine lv_aload_n hx hb dL_law_707 rfl (lv_at hl 0 rfl) ?_
  refine lv_iload hx hb dL_law_708 (lv_at hl 4 rfl) ?_
  refine lv_iconst (v := 1) hx hb dL_law_710 (by decide) ?_
  refine lv_iadd hx hb dL_law_711 ?_
  refine x_sld hx hb hX hbs hbl hS (i := 1) (by decide) (by unfold vp_in; decide) dL_law_712 ?_
  refine lv_aload_n hx hb dL_law_713 rfl (lv_at hl 0 rfl) ?_
  refine lv_iload hx hb dL_law_714 (lv_at hl 4 rfl) ?_
  refine lv_iconst (v := 2) hx hb dL_law_716 (by decide) ?_
  refine lv_iadd hx hb dL_law_717 ?_
  refine x_sld hx hb hX hbs hbl hS (i := 2) (by decide) (by unfold vp_in; decide) dL_law_718 ?_
  refine lv_aload_n hx hb dL_law_719 rfl (lv_at hl 3 rfl) ?_
  have hP1 : va_P D vwCl (rl lo n (pw cy w o G0 G0 P0)) H := by rw [hpw]; exact hP
  refine x_szn (by omega) (by omega) hP (fun hz0 => ?_)
  refine x_callY (vx_runSW (As := [.ref o, .int (xs 1), .int (xs 2), .ref t]) (rest := []) ⟨hx, hb, hml, hown, hts⟩ (c_L_capacity l hfl D cy lo n w o t (by omega) (by omega) (by omega) (by omega) (by omega) _ ht0 (xs 1) (xs 2)) (vx_cwSW 4 hts gL_law_L_capacity rfl rfl rfl (by decide +kernel) ⟨Nat.le_of_ble_eq_true rfl, Nat.le_of_ble_eq_true rfl⟩) (preSY hz0 hP1 hK hXK (hZ.kept hS.2.1) hY) rfl rfl hl.1 rfl (lv_room (Nat.le_of_ble_eq_true rfl)) dL_law_720 ⟨by show _ ≤ 662673; omega, by show _ ≤ 7114216; omega⟩) hS (fun u H locs hf hu hP hzS hS => ?_)
  have hM : MM cy u q 0 5 0 0 0 := hM.ext (fun a ha => hu a (by omega) (by omega))
  have hB : LB cy u q := hB.ext (hu _ (by omega) (by omega))
  have hF : FM cy u (q + 1) 0 300 := hF.ext (fun a h1 h2 => hu a (by omega) (by omega))
  refine lv_istore (lv' := [(5, .int (r_capacity (xs 1) (xs 2)).1), (0, .ref b), (1, .ref o), (2, .ref q), (3, .ref t), (4, .int (0 : Int32))]) hx hb dL_law_723 hl (by decide) rfl (fun ls hl => ?_)
  refine lv_aload_n hx hb dL_law_725 rfl (lv_at hl 3 rfl) ?_
  refine lv_aload_n hx hb dL_law_726 rfl (lv_at hl 1 rfl) ?_
  refine lv_iload hx hb dL_law_727 (lv_at hl 5 rfl) ?_
  refine lv_iconst (v := 1) hx hb dL_law_729 (by decide) ?_
  refine lv_iadd hx hb dL_law_730 ?_
  refine x_sld hx hb hX hbs hbl hS (i := 1) (by decide) (by unfold vp_in; decide) dL_law_731 ?_
  refine lv_aload_n hx hb dL_law_732 rfl (lv_at hl 1 rfl) ?_
  refine lv_iload hx hb dL_law_733 (lv_at hl 5 rfl) ?_
  refine lv_iconst (v := 2) hx hb dL_law_735 (by decide) ?_
  refine lv_iadd hx hb dL_law_736 ?_
  refine x_sld hx hb hX hbs hbl hS (i := 2) (by decide) (by unfold vp_in; decide) dL_law_737 ?_
  refine x_callx (va_runV (As := [.int (xs 1), .int (xs 2)]) (rest := []) ⟨hx, hb, hml, hown, hts⟩ (c_X8_capacity l D cy lo n u q (by omega) (by omega) 0 hM hB hF (xs 1) (xs 2)) (cwV 2 hts gL_law_X8_capacity rfl rfl rfl (by decide +kernel) ⟨Nat.le_of_ble_eq_true rfl, Nat.le_of_ble_eq_true rfl⟩) (preV hP hK (x_recv (ci := 8) (q := (RX8, TX8, 8)) hK.1 hP (by omega) (by omega) rfl hM.self)) rfl rfl hl.1 rfl (lv_room (Nat.le_of_ble_eq_true rfl)) dL_law_738 ⟨by show _ ≤ 662673; omega, by show _ ≤ 7114216; omega⟩) hS (fun v2 u2 H locs hX2 hP hS => ?_)
  obtain ⟨hth, hans, hu2⟩ := hX2
  obtain ⟨n2, hn2⟩ : ∃ n2, n2 = n := ⟨n, rfl⟩
  rw [← hn2] at hP
  refine lv_istore (lv' := [(6, .int v2), (5, .int (r_capacity (xs 1) (xs 2)).1), (0, .ref b), (1, .ref o), (2, .ref q), (3, .ref t), (4, .int (0 : Int32))]) hx hb dL_law_741 hl (by decide) rfl (fun ls hl => ?_)
  refine lv_aload_n hx hb dL_law_743 rfl (lv_at hl 4 rfl) ?_
  obtain ⟨fs2, hfs2⟩ := hth
  refine x_calli (va_runV (As := []) (rest := []) ⟨hx, hb, hml, hown, hts⟩ (c_X8_thrown l D cy lo n2 u2 q (by omega) (by omega) _ fs2 hfs2) (cwV 0 hts gL_law_X8_thrown rfl rfl rfl (by decide +kernel) ⟨Nat.le_of_ble_eq_true rfl, Nat.le_of_ble_eq_true rfl⟩) (preV hP hK (x_recv (ci := 8) (q := (RX8, TX8, 8)) hK.1 hP (by omega) (by omega) rfl hfs2)) rfl rfl hl.1 rfl (lv_room (Nat.le_of_ble_eq_true rfl)) dL_law_744 ⟨by show _ ≤ 662673; omega, by show _ ≤ 7114216; omega⟩) hS (fun H locs hP hS => ?_)
  refine lv_iload hx hb dL_law_747 (lv_at hl 1 rfl) ?_
  refine lv_icmp_eq (tgt := 754) hx hb dL_law_749 (by decide) (fun _ => ?_) (fun h9 => absurd rfl h9)
  refine lv_iload hx hb dL_law_754 (lv_at hl 1 rfl) ?_
  refine lv_if_ne (tgt := 771) hx hb dL_law_756 (by decide) (fun _ => ?_) (fun h0 => ?_)
  · refine lv_goto (tgt := 1794) hx hb dL_law_771 (by decide) ?_
    exact kk H locs ls _ _ (by omega) (by omega) (lv_sub hl [2, 6] rfl) hS
  · refine lv_aload_n hx hb dL_law_759 rfl (lv_at hl 5 rfl) ?_
    refine lv_iconst (v := 0) hx hb dL_law_760 (by decide) ?_
    obtain ⟨f9, hf9, hg9⟩ := hf
    have hut : u2 t = .inl (cy 7, 1, .inr (.inl f9)) := (hu2 t (by omega)).trans hf9
    refine x_lald hx hb hK.1 hP (by omega) (by omega) 7 hut rfl (cl_of_nI (i := 0) rfl (by omega)) (vp_in_of_nI (i := 0) rfl (by omega) (by omega)) dL_law_761 ?_
    refine lv_iload hx hb dL_law_762 (lv_at hl 0 rfl) ?_
    refine lv_i2l (v := f9 0) hx hb dL_law_764 (by rw [hg9 h0, hans h0]) ?_
    refine W.lcmp hx hb dL_law_765 ?_
    rw [cmp_rf]
    refine lv_if_eq (tgt := 771) hx hb dL_law_766 (by decide) (fun _ => ?_) (fun h9 => absurd rfl h9)
    refine lv_goto (tgt := 1794) hx hb dL_law_771 (by decide) ?_
    exact kk H locs ls _ _ (by omega) (by omega) (lv_sub hl [2, 6] rfl) hS
set_option maxRecDepth 100000 in
set_option maxHeartbeats 1000000 in
/-- case 8: permit -/
theorem lw_c8 {p : Program} {l : Launch} {e : Env} {s : State} {m : MethodId} {below : List Frame} {meth : Method} {c : Code} {Q : State → Prop} {D : va_G} {cy : Nat → ClassId} {b : Nat} {xs : Nat → Int32} {lo n o q t : Nat} {w : Nat → va_E} (hfl : l.stackTraces = false) (hC : LC D cy p s m c b 6 xs lo) (hI : IV cy w lo n o q t) {H : Heap} {locs : List Loc} {ls : Array Slot} {cells slots : Nat} (hce : s.heap.size + cells = lo + n) (hsl : slots ≤ 2000) (hP : va_P D vwCl (rl lo n w) H) (hS : va_S (fun q : Nat => lo ≤ q) s.heap H locs) (hl : lv_has ls 9 [(0, .ref b), (1, .ref o), (2, .ref q), (3, .ref t), (4, .int (0 : Int32))])
    (kk : ∀ (H : Heap) (locs : List Loc) (ls : Array Slot) (cells slots : Nat), cells ≤ 3000 → slots ≤ 9000 → lv_has ls 9 [(0, .ref b), (4, .int (0 : Int32))] → va_S (fun q : Nat => lo ≤ q) s.heap H locs → W p l e room_1 s m #[Value.ref b] below meth c H locs cells slots Q (F0 m 1794 ls [])) : W p l e room_1 s m #[Value.ref b] below meth c H locs cells slots Q (F0 m 774 ls []) := by
  obtain ⟨hx, hb, hml, hown, hts, htl, hKI, hXK, hZ, hY, hX, hbs, hlo⟩ := id hC
  have hbl : b < lo := by omega
  have hK : KK D cy s := hKI.1
  obtain ⟨ho, hq, ht, hn, hpw, hM, hB, hF, ht0⟩ := id hI
  refine lv_aload_n hx hb dL_law_774 rfl (lv_at hl 1 rfl) ?_
  refine lv_aload_n hx hb dL_law_775 rfl (lv_at hl 0 rfl) ?_
  refine lv_iload hx hb dL_law_776 (lv_at hl 4 rfl) ?_
  refine lv_iconst (v := 1) hx hb dL_law_778 (by decide) ?_
  refine lv_iadd hx hb dL_law_779 ?_
  refine x_sld hx hb hX hbs hbl hS (i := 1) (by decide) (by unfold vp_in; decide) dL_law_780 ?_
  refine lv_aload_n hx hb dL_law_781 rfl (lv_at hl 3 rfl) ?_
  have hP1 : va_P D vwCl (rl lo n (pw cy w o G0 G0 P0)) H := by rw [hpw]; exact hP
  refine x_szn (by omega) (by omega) hP (fun hz0 => ?_)
  refine x_callY (vx_runSW (As := [.ref o, .int (xs 1), .ref t]) (rest := []) ⟨hx, hb, hml, hown, hts⟩ (c_L_permit l hfl D cy lo n w o t (by omega) (by omega) (by omega) (by omega) (by omega) _ ht0 (xs 1)) (vx_cwSW 3 hts gL_law_L_permit rfl rfl rfl (by decide +kernel) ⟨Nat.le_of_ble_eq_true rfl, Nat.le_of_ble_eq_true rfl⟩) (preSY hz0 hP1 hK hXK (hZ.kept hS.2.1) hY) rfl rfl hl.1 rfl (lv_room (Nat.le_of_ble_eq_true rfl)) dL_law_782 ⟨by show _ ≤ 662673; omega, by show _ ≤ 7114216; omega⟩) hS (fun u H locs hf hu hP hzS hS => ?_)
  have hM : MM cy u q 0 5 0 0 0 := hM.ext (fun a ha => hu a (by omega) (by omega))
  have hB : LB cy u q := hB.ext (hu _ (by omega) (by omega))
  have hF : FM cy u (q + 1) 0 300 := hF.ext (fun a h1 h2 => hu a (by omega) (by omega))
  refine lv_istore (lv' := [(5, .int (r_permit (xs 1)).1), (0, .ref b), (1, .ref o), (2, .ref q), (3, .ref t), (4, .int (0 : Int32))]) hx hb dL_law_785 hl (by decide) rfl (fun ls hl => ?_)
  refine lv_aload_n hx hb dL_law_787 rfl (lv_at hl 3 rfl) ?_
  refine lv_aload_n hx hb dL_law_788 rfl (lv_at hl 1 rfl) ?_
  refine lv_iload hx hb dL_law_789 (lv_at hl 5 rfl) ?_
  refine lv_iconst (v := 1) hx hb dL_law_791 (by decide) ?_
  refine lv_iadd hx hb dL_law_792 ?_
  refine x_sld hx hb hX hbs hbl hS (i := 1) (by decide) (by unfold vp_in; decide) dL_law_793 ?_
  refine x_callx (va_runV (As := [.int (xs 1)]) (rest := []) ⟨hx, hb, hml, hown, hts⟩ (c_X8_permit l D cy lo n u q (by omega) (by omega) 0 hM hB hF (xs 1)) (cwV 1 hts gL_law_X8_permit rfl rfl rfl (by decide +kernel) ⟨Nat.le_of_ble_eq_true rfl, Nat.le_of_ble_eq_true rfl⟩) (preV hP hK (x_recv (ci := 8) (q := (RX8, TX8, 8)) hK.1 hP (by omega) (by omega) rfl hM.self)) rfl rfl hl.1 rfl (lv_room (Nat.le_of_ble_eq_true rfl)) dL_law_794 ⟨by show _ ≤ 662673; omega, by show _ ≤ 7114216; omega⟩) hS (fun v2 u2 H locs hX2 hP hS => ?_)
  obtain ⟨hth, hans, hu2⟩ := hX2
  obtain ⟨n2, hn2⟩ : ∃ n2, n2 = n := ⟨n, rfl⟩
  rw [← hn2] at hP
  refine lv_istore (lv' := [(6, .int v2), (5, .int (r_permit (xs 1)).1), (0, .ref b), (1, .ref o), (2, .ref q), (3, .ref t), (4, .int (0 : Int32))]) hx hb dL_law_797 hl (by decide) rfl (fun ls hl => ?_)
  refine lv_aload_n hx hb dL_law_799 rfl (lv_at hl 4 rfl) ?_
  obtain ⟨fs2, hfs2⟩ := hth
  refine x_calli (va_runV (As := []) (rest := []) ⟨hx, hb, hml, hown, hts⟩ (c_X8_thrown l D cy lo n2 u2 q (by omega) (by omega) _ fs2 hfs2) (cwV 0 hts gL_law_X8_thrown rfl rfl rfl (by decide +kernel) ⟨Nat.le_of_ble_eq_true rfl, Nat.le_of_ble_eq_true rfl⟩) (preV hP hK (x_recv (ci := 8) (q := (RX8, TX8, 8)) hK.1 hP (by omega) (by omega) rfl hfs2)) rfl rfl hl.1 rfl (lv_room (Nat.le_of_ble_eq_true rfl)) dL_law_800 ⟨by show _ ≤ 662673; omega, by show _ ≤ 7114216; omega⟩) hS (fun H locs hP hS => ?_)
  refine lv_iload hx hb dL_law_803 (lv_at hl 1 rfl) ?_
  refine lv_icmp_eq (tgt := 810) hx hb dL_law_805 (by decide) (fun _ => ?_) (fun h9 => absurd rfl h9)
  refine lv_iload hx hb dL_law_810 (lv_at hl 1 rfl) ?_
  refine lv_if_ne (tgt := 827) hx hb dL_law_812 (by decide) (fun _ => ?_) (fun h0 => ?_)
  · refine lv_goto (tgt := 1794) hx hb dL_law_827 (by decide) ?_
    exact kk H locs ls _ _ (by omega) (by omega) (lv_sub hl [2, 6] rfl) hS
  · refine lv_aload_n hx hb dL_law_815 rfl (lv_at hl 5 rfl) ?_
    refine lv_iconst (v := 0) hx hb dL_law_816 (by decide) ?_
    obtain ⟨f9, hf9, hg9⟩ := hf
    have hut : u2 t = .inl (cy 7, 1, .inr (.inl f9)) := (hu2 t (by omega)).trans hf9
    refine x_lald hx hb hK.1 hP (by omega) (by omega) 7 hut rfl (cl_of_nI (i := 0) rfl (by omega)) (vp_in_of_nI (i := 0) rfl (by omega) (by omega)) dL_law_817 ?_
    refine lv_iload hx hb dL_law_818 (lv_at hl 0 rfl) ?_
    refine lv_i2l (v := f9 0) hx hb dL_law_820 (by rw [hg9 h0, hans h0]) ?_
    refine W.lcmp hx hb dL_law_821 ?_
    rw [cmp_rf]
    refine lv_if_eq (tgt := 827) hx hb dL_law_822 (by decide) (fun _ => ?_) (fun h9 => absurd rfl h9)
    refine lv_goto (tgt := 1794) hx hb dL_law_827 (by decide) ?_
    exact kk H locs ls _ _ (by omega) (by omega) (lv_sub hl [2, 6] rfl) hS
