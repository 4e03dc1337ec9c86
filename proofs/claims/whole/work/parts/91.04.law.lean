set_option maxHeartbeats 1000000 in
set_option maxRecDepth 100000 in
theorem law_4 {p : Program} {l : Launch} {e : Env} {s : State} {m : MethodId} {below : List Frame} {meth : Method} {c : Code} {sb L i : Nat} {xs : Nat → Int32} {Q : State → Prop} {G : va_G} {cI cJ : ClassId} {a b : Nat → Nat} {A : Nat → Prop} {H : Heap} {locs : List Loc} {ls : Array Slot} (LC : LCx p s m c sb L i xs G cI cJ A) (hI : LawI G cI cJ A a b H) (hS : va_S A s.heap H locs) (hl : lv_has ls 4 [(0, .ref sb), (1, .ref (a 0)), (2, .ref (b 0)), (3, .int (nI i))]) (kk : ∀ (H : Heap) (locs : List Loc), LawI G cI cJ A a b H → va_S A s.heap H locs → W p l e room_1 s m #[Value.ref sb] below meth c H locs 44 7364 Q (F0 m 1163 ls [])) : W p l e room_1 s m #[Value.ref sb] below meth c H locs 44 7364 Q (F0 m 244 ls []) := by
  obtain ⟨hx, hb, hml, hown, hts, hK, hX, hbl, hbA, hi, hL⟩ := LC
  obtain ⟨st, up, lo, ey, le, en, t, so, sz, z, bd, bs, mn, bl, gu, gl, k16, k17, k18, k19, k20, ln, wd, we, wy, va, sv, ms, mm, mz, gr, sp, cn, su, fa, sg, nx, ti, fx, wyb, web, ro, sm_, hP, hD, tb, hT, hz, ts, hM, hG, hey, hle, hen, wb⟩ := hI
  refine lv_aload_n hx hb dL_law_244 rfl (lv_at hl 1 rfl) ?_
  refine lv_aload_n hx hb dL_law_245 rfl (lv_at hl 0 rfl) ?_
  refine lv_iload_n hx hb dL_law_246 rfl (lv_at hl 3 rfl) ?_
  refine lv_iconst (v := nI 1) hx hb dL_law_247 (by decide) ?_
  refine lv_iadd hx hb dL_law_248 ?_
  refine toi (nI_add i 1) ?_
  refine va_sld hx hb hX hbl hbA hS (vp_in_nI (show i + 1 < L by omega) (by omega)) dL_law_249 ?_
  refine toi (show xs (nI (i + 1)).toNatClampNeg = xs (i + 1) from by rw [nI_clamp (by omega)]) ?_
  refine lv_aload_n hx hb dL_law_250 rfl (lv_at hl 0 rfl) ?_
  refine lv_iload_n hx hb dL_law_251 rfl (lv_at hl 3 rfl) ?_
  refine lv_iconst (v := nI 2) hx hb dL_law_252 (by decide) ?_
  refine lv_iadd hx hb dL_law_253 ?_
  refine toi (nI_add i 2) ?_
  refine va_sld hx hb hX hbl hbA hS (vp_in_nI (show i + 2 < L by omega) (by omega)) dL_law_254 ?_
  refine toi (show xs (nI (i + 2)).toNatClampNeg = xs (i + 2) from by rw [nI_clamp (by omega)]) ?_
  refine lv_aload_n hx hb dL_law_255 rfl (lv_at hl 0 rfl) ?_
  refine lv_iload_n hx hb dL_law_256 rfl (lv_at hl 3 rfl) ?_
  refine lv_iconst (v := nI 3) hx hb dL_law_257 (by decide) ?_
  refine lv_iadd hx hb dL_law_258 ?_
  refine toi (nI_add i 3) ?_
  refine va_sld hx hb hX hbl hbA hS (vp_in_nI (show i + 3 < L by omega) (by omega)) dL_law_259 ?_
  refine toi (show xs (nI (i + 3)).toNatClampNeg = xs (i + 3) from by rw [nI_clamp (by omega)]) ?_
  refine lv_i2l (v := (xs (i + 3)).toInt64) hx hb dL_law_260 rfl ?_
  refine lv_bipush (v := nI 32) hx hb dL_law_261 (by decide) ?_
  refine lv_lshl (v := ((xs (i + 3)).toInt64) <<< ((nI 32).toInt64 &&& 63)) hx hb dL_law_263 rfl ?_
  refine lv_aload_n hx hb dL_law_264 rfl (lv_at hl 0 rfl) ?_
  refine lv_iload_n hx hb dL_law_265 rfl (lv_at hl 3 rfl) ?_
  refine lv_iconst (v := nI 4) hx hb dL_law_266 (by decide) ?_
  refine lv_iadd hx hb dL_law_267 ?_
  refine toi (nI_add i 4) ?_
  refine va_sld hx hb hX hbl hbA hS (vp_in_nI (show i + 4 < L by omega) (by omega)) dL_law_268 ?_
  refine toi (show xs (nI (i + 4)).toNatClampNeg = xs (i + 4) from by rw [nI_clamp (by omega)]) ?_
  refine lv_i2l (v := (xs (i + 4)).toInt64) hx hb dL_law_269 rfl ?_
  refine lv_ldc2 (own := RL) (v := 4294967295) hx hb hown (hts (.constantLong RL 32 (4294967295)) (by decide +kernel)) dL_law_270 ?_
  refine lv_land hx hb dL_law_273 ?_
  refine lv_lor hx hb dL_law_274 ?_
  refine crw_i (va_runV (As := [.int (xs (i + 1)), .int (xs (i + 2)), .long ((((xs (i + 3)).toInt64) <<< ((nI 32).toInt64 &&& 63)) ||| (((xs (i + 4)).toInt64) &&& (4294967295 : Int64)))]) (rest := []) ⟨hx, hb, hml, hown, hts⟩ (c_X7_write l G cI cJ (a := a) (oc := st) (so := so) (sz := sz) (z := z) (tr := xs (i + 1)) (pl := xs (i + 2)) (v := (((xs (i + 3)).toInt64) <<< ((nI 32).toInt64 &&& 63)) ||| (((xs (i + 4)).toInt64) &&& (4294967295 : Int64))) (ts := by first | assumption | omega)) (cwV 3 hts gL_law_X7_write rfl rfl rfl (by decide +kernel) ⟨Nat.le_of_ble_eq_true rfl, Nat.le_of_ble_eq_true rfl⟩) (preV_rw (wc := [oX a st, oTr a, aI cI (a 9) 4 (oF so), aI cI (a 10) 4 (nF sz), aJ cJ (a 8) 240 z]) hK hP hD [0, 1, 9, 10, 8] rfl rfl 7 0 rfl rfl rfl) rfl rfl hl.1 rfl (lv_room (Nat.le_of_ble_eq_true rfl)) dL_law_275 ⟨Nat.le_of_ble_eq_true rfl, Nat.le_of_ble_eq_true rfl⟩) hP hD hS [0, 1, 9, 10, 8] rfl [a 0, a 1, a 9, a 10, a 8] (fun u => rfl) rfl (fun r_275 u_ H locs hw_275 hP hD hS => ?_)
  have hP : va_P G vwCl [oX a (nI (wnp so sz (xs (i + 1)) (xs (i + 2)))), oTr a, oTe a (nI ey) (nI le), oRa a mn, oSt a bl, oCh a, oRo a (nI en), oFr a up lo, aJ cJ (a 8) 240 (zWrite so sz z (xs (i + 1)) (xs (i + 2)) ((((xs (i + 3)).toInt64) <<< ((nI 32).toInt64 &&& 63)) ||| (((xs (i + 4)).toInt64) &&& (4294967295 : Int64)))), aI cI (a 9) 4 (oF so), aI cI (a 10) 4 (nF sz), aI cI (a 11) 1920 (oF t), aI cI (a 12) 64 bd, aI cI (a 13) 64 bs, aI cI (a 14) 240 (nF gu), aI cI (a 15) 240 (nF gl), aI cI (a 16) 21 (nF k16), aI cI (a 17) 21 (nF k17), aI cI (a 18) 21 (nF k18), aI cI (a 19) 21 (nF k19), aI cI (a 20) 21 (nF k20), aI cI (a 21) 8 (oF ln), aI cI (a 22) 8 (nF wd), aI cI (a 23) 8 (oF we), aI cI (a 24) 8 (nF wy), aI cI (a 25) 24 (oF va), aI cI (a 26) 24 (oF sv), oM b st up lo (nI ey) (nI le) (nI en) (oI 0), aI cI (b 1) 4 (nF ms), aI cI (b 2) 4 (oF mm), aJ cJ (b 3) 240 mz, aI cI (b 4) 1920 gr, aI cI (b 5) 1920 sp, aI cI (b 6) 21 (nF cn), aI cI (b 7) 21 (nF su), aI cI (b 8) 8 (oF fa), aI cI (b 9) 8 (nF sg), aI cI (b 10) 8 (oF nx), aI cI (b 11) 64 (nF ti), aI cI (b 12) 64 (oF fx), aI cI (b 13) 8 (nF wyb), aI cI (b 14) 8 (oF web), aI cI (b 15) 24 (oF ro), aI cI (b 16) 24 (oF sm_)] H := hP
  have hD : va_D A [oX a (nI (wnp so sz (xs (i + 1)) (xs (i + 2)))), oTr a, oTe a (nI ey) (nI le), oRa a mn, oSt a bl, oCh a, oRo a (nI en), oFr a up lo, aJ cJ (a 8) 240 (zWrite so sz z (xs (i + 1)) (xs (i + 2)) ((((xs (i + 3)).toInt64) <<< ((nI 32).toInt64 &&& 63)) ||| (((xs (i + 4)).toInt64) &&& (4294967295 : Int64)))), aI cI (a 9) 4 (oF so), aI cI (a 10) 4 (nF sz), aI cI (a 11) 1920 (oF t), aI cI (a 12) 64 bd, aI cI (a 13) 64 bs, aI cI (a 14) 240 (nF gu), aI cI (a 15) 240 (nF gl), aI cI (a 16) 21 (nF k16), aI cI (a 17) 21 (nF k17), aI cI (a 18) 21 (nF k18), aI cI (a 19) 21 (nF k19), aI cI (a 20) 21 (nF k20), aI cI (a 21) 8 (oF ln), aI cI (a 22) 8 (nF wd), aI cI (a 23) 8 (oF we), aI cI (a 24) 8 (nF wy), aI cI (a 25) 24 (oF va), aI cI (a 26) 24 (oF sv), oM b st up lo (nI ey) (nI le) (nI en) (oI 0), aI cI (b 1) 4 (nF ms), aI cI (b 2) 4 (oF mm), aJ cJ (b 3) 240 mz, aI cI (b 4) 1920 gr, aI cI (b 5) 1920 sp, aI cI (b 6) 21 (nF cn), aI cI (b 7) 21 (nF su), aI cI (b 8) 8 (oF fa), aI cI (b 9) 8 (nF sg), aI cI (b 10) 8 (oF nx), aI cI (b 11) 64 (nF ti), aI cI (b 12) 64 (oF fx), aI cI (b 13) 8 (nF wyb), aI cI (b 14) 8 (oF web), aI cI (b 15) 24 (oF ro), aI cI (b 16) 24 (oF sm_)] := hD
  refine toi hw_275 ?_
  refine lv_aload_n hx hb dL_law_278 rfl (lv_at hl 2 rfl) ?_
  refine lv_aload_n hx hb dL_law_279 rfl (lv_at hl 0 rfl) ?_
  refine lv_iload_n hx hb dL_law_280 rfl (lv_at hl 3 rfl) ?_
  refine lv_iconst (v := nI 1) hx hb dL_law_281 (by decide) ?_
  refine lv_iadd hx hb dL_law_282 ?_
  refine toi (nI_add i 1) ?_
  refine va_sld hx hb hX hbl hbA hS (vp_in_nI (show i + 1 < L by omega) (by omega)) dL_law_283 ?_
  refine toi (show xs (nI (i + 1)).toNatClampNeg = xs (i + 1) from by rw [nI_clamp (by omega)]) ?_
  refine lv_aload_n hx hb dL_law_284 rfl (lv_at hl 0 rfl) ?_
  refine lv_iload_n hx hb dL_law_285 rfl (lv_at hl 3 rfl) ?_
  refine lv_iconst (v := nI 2) hx hb dL_law_286 (by decide) ?_
  refine lv_iadd hx hb dL_law_287 ?_
  refine toi (nI_add i 2) ?_
  refine va_sld hx hb hX hbl hbA hS (vp_in_nI (show i + 2 < L by omega) (by omega)) dL_law_288 ?_
  refine toi (show xs (nI (i + 2)).toNatClampNeg = xs (i + 2) from by rw [nI_clamp (by omega)]) ?_
  refine lv_aload_n hx hb dL_law_289 rfl (lv_at hl 0 rfl) ?_
  refine lv_iload_n hx hb dL_law_290 rfl (lv_at hl 3 rfl) ?_
  refine lv_iconst (v := nI 3) hx hb dL_law_291 (by decide) ?_
  refine lv_iadd hx hb dL_law_292 ?_
  refine toi (nI_add i 3) ?_
  refine va_sld hx hb hX hbl hbA hS (vp_in_nI (show i + 3 < L by omega) (by omega)) dL_law_293 ?_
  refine toi (show xs (nI (i + 3)).toNatClampNeg = xs (i + 3) from by rw [nI_clamp (by omega)]) ?_
  refine lv_i2l (v := (xs (i + 3)).toInt64) hx hb dL_law_294 rfl ?_
  refine lv_bipush (v := nI 32) hx hb dL_law_295 (by decide) ?_
  refine lv_lshl (v := ((xs (i + 3)).toInt64) <<< ((nI 32).toInt64 &&& 63)) hx hb dL_law_297 rfl ?_
  refine lv_aload_n hx hb dL_law_298 rfl (lv_at hl 0 rfl) ?_
  refine lv_iload_n hx hb dL_law_299 rfl (lv_at hl 3 rfl) ?_
  refine lv_iconst (v := nI 4) hx hb dL_law_300 (by decide) ?_
  refine lv_iadd hx hb dL_law_301 ?_
  refine toi (nI_add i 4) ?_
  refine va_sld hx hb hX hbl hbA hS (vp_in_nI (show i + 4 < L by omega) (by omega)) dL_law_302 ?_
  refine toi (show xs (nI (i + 4)).toNatClampNeg = xs (i + 4) from by rw [nI_clamp (by omega)]) ?_
  refine lv_i2l (v := (xs (i + 4)).toInt64) hx hb dL_law_303 rfl ?_
  refine lv_ldc2 (own := RL) (v := 4294967295) hx hb hown (hts (.constantLong RL 32 (4294967295)) (by decide +kernel)) dL_law_304 ?_
  refine lv_land hx hb dL_law_307 ?_
  refine lv_lor hx hb dL_law_308 ?_
  refine crw_i (va_runV (As := [.int (xs (i + 1)), .int (xs (i + 2)), .long ((((xs (i + 3)).toInt64) <<< ((nI 32).toInt64 &&& 63)) ||| (((xs (i + 4)).toInt64) &&& (4294967295 : Int64)))]) (rest := [.int (bi (wnp so sz (xs (i + 1)) (xs (i + 2)) = 0))]) ⟨hx, hb, hml, hown, hts⟩ (c_X8_write l G cI cJ (b := b) (st := st) (tp := up) (bt := lo) (ey := ey) (le := nI le) (en := nI en) (wo := oI 0) (so := so) (sz := sz) (z := z) (ms := ms) (mm := mm) (mz := mz) (tr := xs (i + 1)) (pl := xs (i + 2)) (v := (((xs (i + 3)).toInt64) <<< ((nI 32).toInt64 &&& 63)) ||| (((xs (i + 4)).toInt64) &&& (4294967295 : Int64))) (ts := by first | assumption | omega) (hM := by first | assumption | omega)) (cwV 3 hts gL_law_X8_write rfl rfl rfl (by decide +kernel) ⟨Nat.le_of_ble_eq_true rfl, Nat.le_of_ble_eq_true rfl⟩) (preV_rw (wc := [oM b st up lo (nI ey) (nI le) (nI en) (oI 0), aI cI (b 1) 4 (nF ms), aI cI (b 2) 4 (oF mm), aJ cJ (b 3) 240 mz]) hK hP hD [27, 28, 29, 30] rfl rfl 8 27 rfl rfl rfl) rfl rfl hl.1 rfl (lv_room (Nat.le_of_ble_eq_true rfl)) dL_law_309 ⟨Nat.le_of_ble_eq_true rfl, Nat.le_of_ble_eq_true rfl⟩) hP hD hS [27, 28, 29, 30] rfl [b 0, b 1, b 2, b 3] (fun u => rfl) rfl (fun r_309 mz2_309 H locs hw_309 hP hD hS => ?_)
  have hP : va_P G vwCl [oX a (nI (wnp so sz (xs (i + 1)) (xs (i + 2)))), oTr a, oTe a (nI ey) (nI le), oRa a mn, oSt a bl, oCh a, oRo a (nI en), oFr a up lo, aJ cJ (a 8) 240 (zWrite so sz z (xs (i + 1)) (xs (i + 2)) ((((xs (i + 3)).toInt64) <<< ((nI 32).toInt64 &&& 63)) ||| (((xs (i + 4)).toInt64) &&& (4294967295 : Int64)))), aI cI (a 9) 4 (oF so), aI cI (a 10) 4 (nF sz), aI cI (a 11) 1920 (oF t), aI cI (a 12) 64 bd, aI cI (a 13) 64 bs, aI cI (a 14) 240 (nF gu), aI cI (a 15) 240 (nF gl), aI cI (a 16) 21 (nF k16), aI cI (a 17) 21 (nF k17), aI cI (a 18) 21 (nF k18), aI cI (a 19) 21 (nF k19), aI cI (a 20) 21 (nF k20), aI cI (a 21) 8 (oF ln), aI cI (a 22) 8 (nF wd), aI cI (a 23) 8 (oF we), aI cI (a 24) 8 (nF wy), aI cI (a 25) 24 (oF va), aI cI (a 26) 24 (oF sv), oM b (nI (wnp so sz (xs (i + 1)) (xs (i + 2)))) up lo (nI ey) (nI le) (nI en) (oI 0), aI cI (b 1) 4 (nF ms), aI cI (b 2) 4 (oF mm), aJ cJ (b 3) 240 mz2_309, aI cI (b 4) 1920 gr, aI cI (b 5) 1920 sp, aI cI (b 6) 21 (nF cn), aI cI (b 7) 21 (nF su), aI cI (b 8) 8 (oF fa), aI cI (b 9) 8 (nF sg), aI cI (b 10) 8 (oF nx), aI cI (b 11) 64 (nF ti), aI cI (b 12) 64 (oF fx), aI cI (b 13) 8 (nF wyb), aI cI (b 14) 8 (oF web), aI cI (b 15) 24 (oF ro), aI cI (b 16) 24 (oF sm_)] H := hP
  have hD : va_D A [oX a (nI (wnp so sz (xs (i + 1)) (xs (i + 2)))), oTr a, oTe a (nI ey) (nI le), oRa a mn, oSt a bl, oCh a, oRo a (nI en), oFr a up lo, aJ cJ (a 8) 240 (zWrite so sz z (xs (i + 1)) (xs (i + 2)) ((((xs (i + 3)).toInt64) <<< ((nI 32).toInt64 &&& 63)) ||| (((xs (i + 4)).toInt64) &&& (4294967295 : Int64)))), aI cI (a 9) 4 (oF so), aI cI (a 10) 4 (nF sz), aI cI (a 11) 1920 (oF t), aI cI (a 12) 64 bd, aI cI (a 13) 64 bs, aI cI (a 14) 240 (nF gu), aI cI (a 15) 240 (nF gl), aI cI (a 16) 21 (nF k16), aI cI (a 17) 21 (nF k17), aI cI (a 18) 21 (nF k18), aI cI (a 19) 21 (nF k19), aI cI (a 20) 21 (nF k20), aI cI (a 21) 8 (oF ln), aI cI (a 22) 8 (nF wd), aI cI (a 23) 8 (oF we), aI cI (a 24) 8 (nF wy), aI cI (a 25) 24 (oF va), aI cI (a 26) 24 (oF sv), oM b (nI (wnp so sz (xs (i + 1)) (xs (i + 2)))) up lo (nI ey) (nI le) (nI en) (oI 0), aI cI (b 1) 4 (nF ms), aI cI (b 2) 4 (oF mm), aJ cJ (b 3) 240 mz2_309, aI cI (b 4) 1920 gr, aI cI (b 5) 1920 sp, aI cI (b 6) 21 (nF cn), aI cI (b 7) 21 (nF su), aI cI (b 8) 8 (oF fa), aI cI (b 9) 8 (nF sg), aI cI (b 10) 8 (oF nx), aI cI (b 11) 64 (nF ti), aI cI (b 12) 64 (oF fx), aI cI (b 13) 8 (nF wyb), aI cI (b 14) 8 (oF web), aI cI (b 15) 24 (oF ro), aI cI (b 16) 24 (oF sm_)] := hD
  obtain ⟨hr_309, hw_309⟩ := hw_309
  refine toi hr_309 ?_
  refine lv_icmp_eq (tgt := 1163) hx hb dL_law_312 (by decide) (fun _ => ?_) (fun h => absurd rfl h)
  exact kk _ _ ⟨nI (wnp so sz (xs (i + 1)) (xs (i + 2))), up, lo, ey, le, en, t, so, sz, zWrite so sz z (xs (i + 1)) (xs (i + 2)) ((((xs (i + 3)).toInt64) <<< ((nI 32).toInt64 &&& 63)) ||| (((xs (i + 4)).toInt64) &&& (4294967295 : Int64))), bd, bs, mn, bl, gu, gl, k16, k17, k18, k19, k20, ln, wd, we, wy, va, sv, ms, mm, mz2_309, gr, sp, cn, su, fa, sg, nx, ti, fx, wyb, web, ro, sm_, hP, hD, tb, hT, hz, ts, hw_309, hG, hey, hle, hen, wb⟩ hS
