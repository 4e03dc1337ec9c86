set_option maxHeartbeats 1000000 in
set_option maxRecDepth 100000 in
theorem law_10 {p : Program} {l : Launch} {e : Env} {s : State} {m : MethodId} {below : List Frame} {meth : Method} {c : Code} {sb L i : Nat} {xs : Nat → Int32} {Q : State → Prop} {G : va_G} {cI cJ : ClassId} {a b : Nat → Nat} {A : Nat → Prop} {H : Heap} {locs : List Loc} {ls : Array Slot} (LC : LCx p s m c sb L i xs G cI cJ A) (hI : LawI G cI cJ A a b H) (hS : va_S A s.heap H locs) (hl : lv_has ls 4 [(0, .ref sb), (1, .ref (a 0)), (2, .ref (b 0)), (3, .int (nI i))]) (kk : ∀ (H : Heap) (locs : List Loc), LawI G cI cJ A a b H → va_S A s.heap H locs → W p l e room_1 s m #[Value.ref sb] below meth c H locs 44 7364 Q (F0 m 1163 ls [])) : W p l e room_1 s m #[Value.ref sb] below meth c H locs 44 7364 Q (F0 m 513 ls []) := by
  obtain ⟨hx, hb, hml, hown, hts, hK, hX, hbl, hbA, hi, hL⟩ := LC
  obtain ⟨st, up, lo, ey, le, en, t, so, sz, z, bd, bs, mn, bl, gu, gl, k16, k17, k18, k19, k20, ln, wd, we, wy, va, sv, ms, mm, mz, gr, sp, cn, su, fa, sg, nx, ti, fx, wyb, web, ro, sm_, hP, hD, tb, hT, hz, ts, hM, hG, hey, hle, hen, wb⟩ := hI
  refine lv_aload_n hx hb dL_law_513 rfl (lv_at hl 1 rfl) ?_
  refine lv_aload_n hx hb dL_law_514 rfl (lv_at hl 0 rfl) ?_
  refine lv_iload_n hx hb dL_law_515 rfl (lv_at hl 3 rfl) ?_
  refine lv_iconst (v := nI 1) hx hb dL_law_516 (by decide) ?_
  refine lv_iadd hx hb dL_law_517 ?_
  refine toi (nI_add i 1) ?_
  refine va_sld hx hb hX hbl hbA hS (vp_in_nI (show i + 1 < L by omega) (by omega)) dL_law_518 ?_
  refine toi (show xs (nI (i + 1)).toNatClampNeg = xs (i + 1) from by rw [nI_clamp (by omega)]) ?_
  refine lv_aload_n hx hb dL_law_519 rfl (lv_at hl 0 rfl) ?_
  refine lv_iload_n hx hb dL_law_520 rfl (lv_at hl 3 rfl) ?_
  refine lv_iconst (v := nI 2) hx hb dL_law_521 (by decide) ?_
  refine lv_iadd hx hb dL_law_522 ?_
  refine toi (nI_add i 2) ?_
  refine va_sld hx hb hX hbl hbA hS (vp_in_nI (show i + 2 < L by omega) (by omega)) dL_law_523 ?_
  refine toi (show xs (nI (i + 2)).toNatClampNeg = xs (i + 2) from by rw [nI_clamp (by omega)]) ?_
  refine lv_aload_n hx hb dL_law_524 rfl (lv_at hl 0 rfl) ?_
  refine lv_iload_n hx hb dL_law_525 rfl (lv_at hl 3 rfl) ?_
  refine lv_iconst (v := nI 3) hx hb dL_law_526 (by decide) ?_
  refine lv_iadd hx hb dL_law_527 ?_
  refine toi (nI_add i 3) ?_
  refine va_sld hx hb hX hbl hbA hS (vp_in_nI (show i + 3 < L by omega) (by omega)) dL_law_528 ?_
  refine toi (show xs (nI (i + 3)).toNatClampNeg = xs (i + 3) from by rw [nI_clamp (by omega)]) ?_
  refine lv_aload_n hx hb dL_law_529 rfl (lv_at hl 0 rfl) ?_
  refine lv_iload_n hx hb dL_law_530 rfl (lv_at hl 3 rfl) ?_
  refine lv_iconst (v := nI 4) hx hb dL_law_531 (by decide) ?_
  refine lv_iadd hx hb dL_law_532 ?_
  refine toi (nI_add i 4) ?_
  refine va_sld hx hb hX hbl hbA hS (vp_in_nI (show i + 4 < L by omega) (by omega)) dL_law_533 ?_
  refine toi (show xs (nI (i + 4)).toNatClampNeg = xs (i + 4) from by rw [nI_clamp (by omega)]) ?_
  refine crw_i (va_runV (As := [.int (xs (i + 1)), .int (xs (i + 2)), .int (xs (i + 3)), .int (xs (i + 4))]) (rest := []) ⟨hx, hb, hml, hown, hts⟩ (c_X7_book l G cI cJ (a := a) (oc := st) (ey := ey) (le := nI le) (t := t) (bd := bd) (bs := bs) (so := so) (sz := sz) (z := z) (x := xs (i + 1)) (d := xs (i + 2)) (tr := xs (i + 3)) (mn := xs (i + 4)) (tb := by first | assumption | omega) (hT := by first | assumption | omega) (hz := by first | assumption | omega) (ts := by first | assumption | omega) (hey := by first | assumption | omega)) (cwV 4 hts gL_law_X7_book rfl rfl rfl (by decide +kernel) ⟨Nat.le_of_ble_eq_true rfl, Nat.le_of_ble_eq_true rfl⟩) (preV_rw (wc := [oX a st, oTe a (nI ey) (nI le), aI cI (a 11) 1920 (oF t), aI cI (a 12) 64 bd, aI cI (a 13) 64 bs, oTr a, aI cI (a 9) 4 (oF so), aI cI (a 10) 4 (nF sz), aJ cJ (a 8) 240 z]) hK hP hD [0, 2, 11, 12, 13, 1, 9, 10, 8] rfl rfl 7 0 rfl rfl rfl) rfl rfl hl.1 rfl (lv_room (Nat.le_of_ble_eq_true rfl)) dL_law_534 ⟨Nat.le_of_ble_eq_true rfl, Nat.le_of_ble_eq_true rfl⟩) hP hD hS [0, 2, 11, 12, 13, 1, 9, 10, 8] rfl [a 0, a 2, a 11, a 12, a 13, a 1, a 9, a 10, a 8] (fun u => rfl) rfl (fun r_534 u_ H locs hw_534 hP hD hS => ?_)
  obtain ⟨bd2_534, bs2_534⟩ := u_
  have hP : va_P G vwCl [oX a (nI (wbo ey so sz z (xs (i + 1)) (xs (i + 2)) (xs (i + 3)) (xs (i + 4)))), oTr a, oTe a (nI ey) (nI le), oRa a mn, oSt a bl, oCh a, oRo a (nI en), oFr a up lo, aJ cJ (a 8) 240 z, aI cI (a 9) 4 (oF so), aI cI (a 10) 4 (nF sz), aI cI (a 11) 1920 (oF (tBook t ey so sz z (xs (i + 1)) (xs (i + 2)) (xs (i + 3)) (xs (i + 4)))), aI cI (a 12) 64 bd2_534, aI cI (a 13) 64 bs2_534, aI cI (a 14) 240 (nF gu), aI cI (a 15) 240 (nF gl), aI cI (a 16) 21 (nF k16), aI cI (a 17) 21 (nF k17), aI cI (a 18) 21 (nF k18), aI cI (a 19) 21 (nF k19), aI cI (a 20) 21 (nF k20), aI cI (a 21) 8 (oF ln), aI cI (a 22) 8 (nF wd), aI cI (a 23) 8 (oF we), aI cI (a 24) 8 (nF wy), aI cI (a 25) 24 (oF va), aI cI (a 26) 24 (oF sv), oM b st up lo (nI ey) (nI le) (nI en) (oI 0), aI cI (b 1) 4 (nF ms), aI cI (b 2) 4 (oF mm), aJ cJ (b 3) 240 mz, aI cI (b 4) 1920 gr, aI cI (b 5) 1920 sp, aI cI (b 6) 21 (nF cn), aI cI (b 7) 21 (nF su), aI cI (b 8) 8 (oF fa), aI cI (b 9) 8 (nF sg), aI cI (b 10) 8 (oF nx), aI cI (b 11) 64 (nF ti), aI cI (b 12) 64 (oF fx), aI cI (b 13) 8 (nF wyb), aI cI (b 14) 8 (oF web), aI cI (b 15) 24 (oF ro), aI cI (b 16) 24 (oF sm_)] H := hP
  have hD : va_D A [oX a (nI (wbo ey so sz z (xs (i + 1)) (xs (i + 2)) (xs (i + 3)) (xs (i + 4)))), oTr a, oTe a (nI ey) (nI le), oRa a mn, oSt a bl, oCh a, oRo a (nI en), oFr a up lo, aJ cJ (a 8) 240 z, aI cI (a 9) 4 (oF so), aI cI (a 10) 4 (nF sz), aI cI (a 11) 1920 (oF (tBook t ey so sz z (xs (i + 1)) (xs (i + 2)) (xs (i + 3)) (xs (i + 4)))), aI cI (a 12) 64 bd2_534, aI cI (a 13) 64 bs2_534, aI cI (a 14) 240 (nF gu), aI cI (a 15) 240 (nF gl), aI cI (a 16) 21 (nF k16), aI cI (a 17) 21 (nF k17), aI cI (a 18) 21 (nF k18), aI cI (a 19) 21 (nF k19), aI cI (a 20) 21 (nF k20), aI cI (a 21) 8 (oF ln), aI cI (a 22) 8 (nF wd), aI cI (a 23) 8 (oF we), aI cI (a 24) 8 (nF wy), aI cI (a 25) 24 (oF va), aI cI (a 26) 24 (oF sv), oM b st up lo (nI ey) (nI le) (nI en) (oI 0), aI cI (b 1) 4 (nF ms), aI cI (b 2) 4 (oF mm), aJ cJ (b 3) 240 mz, aI cI (b 4) 1920 gr, aI cI (b 5) 1920 sp, aI cI (b 6) 21 (nF cn), aI cI (b 7) 21 (nF su), aI cI (b 8) 8 (oF fa), aI cI (b 9) 8 (nF sg), aI cI (b 10) 8 (oF nx), aI cI (b 11) 64 (nF ti), aI cI (b 12) 64 (oF fx), aI cI (b 13) 8 (nF wyb), aI cI (b 14) 8 (oF web), aI cI (b 15) 24 (oF ro), aI cI (b 16) 24 (oF sm_)] := hD
  obtain ⟨hr_534, hw_534⟩ := hw_534
  refine toi hr_534 ?_
  refine lv_aload_n hx hb dL_law_537 rfl (lv_at hl 2 rfl) ?_
  refine lv_aload_n hx hb dL_law_538 rfl (lv_at hl 0 rfl) ?_
  refine lv_iload_n hx hb dL_law_539 rfl (lv_at hl 3 rfl) ?_
  refine lv_iconst (v := nI 1) hx hb dL_law_540 (by decide) ?_
  refine lv_iadd hx hb dL_law_541 ?_
  refine toi (nI_add i 1) ?_
  refine va_sld hx hb hX hbl hbA hS (vp_in_nI (show i + 1 < L by omega) (by omega)) dL_law_542 ?_
  refine toi (show xs (nI (i + 1)).toNatClampNeg = xs (i + 1) from by rw [nI_clamp (by omega)]) ?_
  refine lv_aload_n hx hb dL_law_543 rfl (lv_at hl 0 rfl) ?_
  refine lv_iload_n hx hb dL_law_544 rfl (lv_at hl 3 rfl) ?_
  refine lv_iconst (v := nI 2) hx hb dL_law_545 (by decide) ?_
  refine lv_iadd hx hb dL_law_546 ?_
  refine toi (nI_add i 2) ?_
  refine va_sld hx hb hX hbl hbA hS (vp_in_nI (show i + 2 < L by omega) (by omega)) dL_law_547 ?_
  refine toi (show xs (nI (i + 2)).toNatClampNeg = xs (i + 2) from by rw [nI_clamp (by omega)]) ?_
  refine lv_aload_n hx hb dL_law_548 rfl (lv_at hl 0 rfl) ?_
  refine lv_iload_n hx hb dL_law_549 rfl (lv_at hl 3 rfl) ?_
  refine lv_iconst (v := nI 3) hx hb dL_law_550 (by decide) ?_
  refine lv_iadd hx hb dL_law_551 ?_
  refine toi (nI_add i 3) ?_
  refine va_sld hx hb hX hbl hbA hS (vp_in_nI (show i + 3 < L by omega) (by omega)) dL_law_552 ?_
  refine toi (show xs (nI (i + 3)).toNatClampNeg = xs (i + 3) from by rw [nI_clamp (by omega)]) ?_
  refine lv_aload_n hx hb dL_law_553 rfl (lv_at hl 0 rfl) ?_
  refine lv_iload_n hx hb dL_law_554 rfl (lv_at hl 3 rfl) ?_
  refine lv_iconst (v := nI 4) hx hb dL_law_555 (by decide) ?_
  refine lv_iadd hx hb dL_law_556 ?_
  refine toi (nI_add i 4) ?_
  refine va_sld hx hb hX hbl hbA hS (vp_in_nI (show i + 4 < L by omega) (by omega)) dL_law_557 ?_
  refine toi (show xs (nI (i + 4)).toNatClampNeg = xs (i + 4) from by rw [nI_clamp (by omega)]) ?_
  refine crw_i (va_runV (As := [.int (xs (i + 1)), .int (xs (i + 2)), .int (xs (i + 3)), .int (xs (i + 4))]) (rest := [.int (bi (wbo ey so sz z (xs (i + 1)) (xs (i + 2)) (xs (i + 3)) (xs (i + 4)) = 0))]) ⟨hx, hb, hml, hown, hts⟩ (c_X8_book l G cI cJ (b := b) (st := st) (tp := up) (bt := lo) (ey := ey) (le := nI le) (en := nI en) (wo := oI 0) (t := t) (so := so) (sz := sz) (z := z) (ms := ms) (mm := mm) (mz := mz) (gr := gr) (sp := sp) (x := xs (i + 1)) (d := xs (i + 2)) (tr := xs (i + 3)) (mn := xs (i + 4)) (hey := by first | assumption | omega) (ts := by first | assumption | omega) (hM := by first | assumption | omega) (hG := by first | assumption | omega)) (cwV 4 hts gL_law_X8_book rfl rfl rfl (by decide +kernel) ⟨Nat.le_of_ble_eq_true rfl, Nat.le_of_ble_eq_true rfl⟩) (preV_rw (wc := [oM b st up lo (nI ey) (nI le) (nI en) (oI 0), aI cI (b 2) 4 (oF mm), aJ cJ (b 3) 240 mz, aI cI (b 4) 1920 gr, aI cI (b 5) 1920 sp]) hK hP hD [27, 29, 30, 31, 32] rfl rfl 8 27 rfl rfl rfl) rfl rfl hl.1 rfl (lv_room (Nat.le_of_ble_eq_true rfl)) dL_law_558 ⟨Nat.le_of_ble_eq_true rfl, Nat.le_of_ble_eq_true rfl⟩) hP hD hS [27, 29, 30, 31, 32] rfl [b 0, b 2, b 3, b 4, b 5] (fun u => rfl) rfl (fun r_558 u_ H locs hw_558 hP hD hS => ?_)
  obtain ⟨gr2_558, sp2_558⟩ := u_
  have hP : va_P G vwCl [oX a (nI (wbo ey so sz z (xs (i + 1)) (xs (i + 2)) (xs (i + 3)) (xs (i + 4)))), oTr a, oTe a (nI ey) (nI le), oRa a mn, oSt a bl, oCh a, oRo a (nI en), oFr a up lo, aJ cJ (a 8) 240 z, aI cI (a 9) 4 (oF so), aI cI (a 10) 4 (nF sz), aI cI (a 11) 1920 (oF (tBook t ey so sz z (xs (i + 1)) (xs (i + 2)) (xs (i + 3)) (xs (i + 4)))), aI cI (a 12) 64 bd2_534, aI cI (a 13) 64 bs2_534, aI cI (a 14) 240 (nF gu), aI cI (a 15) 240 (nF gl), aI cI (a 16) 21 (nF k16), aI cI (a 17) 21 (nF k17), aI cI (a 18) 21 (nF k18), aI cI (a 19) 21 (nF k19), aI cI (a 20) 21 (nF k20), aI cI (a 21) 8 (oF ln), aI cI (a 22) 8 (nF wd), aI cI (a 23) 8 (oF we), aI cI (a 24) 8 (nF wy), aI cI (a 25) 24 (oF va), aI cI (a 26) 24 (oF sv), oM b (nI (wbo ey so sz z (xs (i + 1)) (xs (i + 2)) (xs (i + 3)) (xs (i + 4)))) up lo (nI ey) (nI le) (nI en) (oI 0), aI cI (b 1) 4 (nF ms), aI cI (b 2) 4 (oF mm), aJ cJ (b 3) 240 mz, aI cI (b 4) 1920 gr2_558, aI cI (b 5) 1920 sp2_558, aI cI (b 6) 21 (nF cn), aI cI (b 7) 21 (nF su), aI cI (b 8) 8 (oF fa), aI cI (b 9) 8 (nF sg), aI cI (b 10) 8 (oF nx), aI cI (b 11) 64 (nF ti), aI cI (b 12) 64 (oF fx), aI cI (b 13) 8 (nF wyb), aI cI (b 14) 8 (oF web), aI cI (b 15) 24 (oF ro), aI cI (b 16) 24 (oF sm_)] H := hP
  have hD : va_D A [oX a (nI (wbo ey so sz z (xs (i + 1)) (xs (i + 2)) (xs (i + 3)) (xs (i + 4)))), oTr a, oTe a (nI ey) (nI le), oRa a mn, oSt a bl, oCh a, oRo a (nI en), oFr a up lo, aJ cJ (a 8) 240 z, aI cI (a 9) 4 (oF so), aI cI (a 10) 4 (nF sz), aI cI (a 11) 1920 (oF (tBook t ey so sz z (xs (i + 1)) (xs (i + 2)) (xs (i + 3)) (xs (i + 4)))), aI cI (a 12) 64 bd2_534, aI cI (a 13) 64 bs2_534, aI cI (a 14) 240 (nF gu), aI cI (a 15) 240 (nF gl), aI cI (a 16) 21 (nF k16), aI cI (a 17) 21 (nF k17), aI cI (a 18) 21 (nF k18), aI cI (a 19) 21 (nF k19), aI cI (a 20) 21 (nF k20), aI cI (a 21) 8 (oF ln), aI cI (a 22) 8 (nF wd), aI cI (a 23) 8 (oF we), aI cI (a 24) 8 (nF wy), aI cI (a 25) 24 (oF va), aI cI (a 26) 24 (oF sv), oM b (nI (wbo ey so sz z (xs (i + 1)) (xs (i + 2)) (xs (i + 3)) (xs (i + 4)))) up lo (nI ey) (nI le) (nI en) (oI 0), aI cI (b 1) 4 (nF ms), aI cI (b 2) 4 (oF mm), aJ cJ (b 3) 240 mz, aI cI (b 4) 1920 gr2_558, aI cI (b 5) 1920 sp2_558, aI cI (b 6) 21 (nF cn), aI cI (b 7) 21 (nF su), aI cI (b 8) 8 (oF fa), aI cI (b 9) 8 (nF sg), aI cI (b 10) 8 (oF nx), aI cI (b 11) 64 (nF ti), aI cI (b 12) 64 (oF fx), aI cI (b 13) 8 (nF wyb), aI cI (b 14) 8 (oF web), aI cI (b 15) 24 (oF ro), aI cI (b 16) 24 (oF sm_)] := hD
  obtain ⟨hr_558, hw_558⟩ := hw_558
  refine toi hr_558 ?_
  refine lv_icmp_eq (tgt := 1163) hx hb dL_law_561 (by decide) (fun _ => ?_) (fun h => absurd rfl h)
  exact kk _ _ ⟨nI (wbo ey so sz z (xs (i + 1)) (xs (i + 2)) (xs (i + 3)) (xs (i + 4))), up, lo, ey, le, en, tBook t ey so sz z (xs (i + 1)) (xs (i + 2)) (xs (i + 3)) (xs (i + 4)), so, sz, z, bd2_534, bs2_534, mn, bl, gu, gl, k16, k17, k18, k19, k20, ln, wd, we, wy, va, sv, ms, mm, mz, gr2_558, sp2_558, cn, su, fa, sg, nx, ti, fx, wyb, web, ro, sm_, hP, hD, TB_book tb, hw_534, TZ_book hz, ts, hM, hw_558, hey, hle, hen, wb⟩ hS
