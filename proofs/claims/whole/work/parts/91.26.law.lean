set_option maxHeartbeats 1000000 in
set_option maxRecDepth 100000 in
theorem law_26 {p : Program} {l : Launch} {e : Env} {s : State} {m : MethodId} {below : List Frame} {meth : Method} {c : Code} {sb L i : Nat} {xs : Nat → Int32} {Q : State → Prop} {G : va_G} {cI cJ : ClassId} {a b : Nat → Nat} {A : Nat → Prop} {H : Heap} {locs : List Loc} {ls : Array Slot} (LC : LCx p s m c sb L i xs G cI cJ A) (hI : LawI G cI cJ A a b H) (hS : va_S A s.heap H locs) (hl : lv_has ls 4 [(0, .ref sb), (1, .ref (a 0)), (2, .ref (b 0)), (3, .int (nI i))]) (kk : ∀ (H : Heap) (locs : List Loc), LawI G cI cJ A a b H → va_S A s.heap H locs → W p l e room_1 s m #[Value.ref sb] below meth c H locs 44 7364 Q (F0 m 1163 ls [])) : W p l e room_1 s m #[Value.ref sb] below meth c H locs 44 7364 Q (F0 m 1061 ls []) := by
  obtain ⟨hx, hb, hml, hown, hts, hK, hX, hbl, hbA, hi, hL⟩ := LC
  obtain ⟨st, up, lo, ey, le, en, t, so, sz, z, bd, bs, mn, bl, gu, gl, k16, k17, k18, k19, k20, ln, wd, we, wy, va, sv, ms, mm, mz, gr, sp, cn, su, fa, sg, nx, ti, fx, wyb, web, ro, sm_, hP, hD, tb, hT, hz, ts, hM, hG, hey, hle, hen, wb⟩ := hI
  refine lv_aload_n hx hb dL_law_1061 rfl (lv_at hl 1 rfl) ?_
  refine lv_aload_n hx hb dL_law_1062 rfl (lv_at hl 0 rfl) ?_
  refine lv_iload_n hx hb dL_law_1063 rfl (lv_at hl 3 rfl) ?_
  refine lv_iconst (v := nI 1) hx hb dL_law_1064 (by decide) ?_
  refine lv_iadd hx hb dL_law_1065 ?_
  refine toi (nI_add i 1) ?_
  refine va_sld hx hb hX hbl hbA hS (vp_in_nI (show i + 1 < L by omega) (by omega)) dL_law_1066 ?_
  refine toi (show xs (nI (i + 1)).toNatClampNeg = xs (i + 1) from by rw [nI_clamp (by omega)]) ?_
  refine lv_aload_n hx hb dL_law_1067 rfl (lv_at hl 0 rfl) ?_
  refine lv_iload_n hx hb dL_law_1068 rfl (lv_at hl 3 rfl) ?_
  refine lv_iconst (v := nI 2) hx hb dL_law_1069 (by decide) ?_
  refine lv_iadd hx hb dL_law_1070 ?_
  refine toi (nI_add i 2) ?_
  refine va_sld hx hb hX hbl hbA hS (vp_in_nI (show i + 2 < L by omega) (by omega)) dL_law_1071 ?_
  refine toi (show xs (nI (i + 2)).toNatClampNeg = xs (i + 2) from by rw [nI_clamp (by omega)]) ?_
  refine lv_aload_n hx hb dL_law_1072 rfl (lv_at hl 0 rfl) ?_
  refine lv_iload_n hx hb dL_law_1073 rfl (lv_at hl 3 rfl) ?_
  refine lv_iconst (v := nI 3) hx hb dL_law_1074 (by decide) ?_
  refine lv_iadd hx hb dL_law_1075 ?_
  refine toi (nI_add i 3) ?_
  refine va_sld hx hb hX hbl hbA hS (vp_in_nI (show i + 3 < L by omega) (by omega)) dL_law_1076 ?_
  refine toi (show xs (nI (i + 3)).toNatClampNeg = xs (i + 3) from by rw [nI_clamp (by omega)]) ?_
  refine lv_aload_n hx hb dL_law_1077 rfl (lv_at hl 0 rfl) ?_
  refine lv_iload_n hx hb dL_law_1078 rfl (lv_at hl 3 rfl) ?_
  refine lv_iconst (v := nI 4) hx hb dL_law_1079 (by decide) ?_
  refine lv_iadd hx hb dL_law_1080 ?_
  refine toi (nI_add i 4) ?_
  refine va_sld hx hb hX hbl hbA hS (vp_in_nI (show i + 4 < L by omega) (by omega)) dL_law_1081 ?_
  refine toi (show xs (nI (i + 4)).toNatClampNeg = xs (i + 4) from by rw [nI_clamp (by omega)]) ?_
  refine lv_if_eq (tgt := 1089) hx hb dL_law_1082 (by decide) (fun c_1082 => ?_) (fun c_1082 => ?_)
  · refine lv_iconst (v := nI 0) hx hb dL_law_1089 (by decide) ?_
    refine toi (show nI 0 = bi False from (bi_f (fun h => h)).symm) ?_
    refine crw_i (va_runV (As := [.int (xs (i + 1)), .int (xs (i + 2)), .int (xs (i + 3)), .int (bi False)]) (rest := []) ⟨hx, hb, hml, hown, hts⟩ (c_X7_turn l G cI cJ (a := a) (oc := st) (ey := ey) (le := le) (t := t) (bd := bd) (bs := bs) (en := en) (ln := ln) (wd := wd) (we := we) (wy := wy) (va := va) (sv := sv) (k := xs (i + 1)) (w := xs (i + 2)) (rc := xs (i + 3)) (hi := False) (tb := by first | assumption | omega) (hT := by first | assumption | omega) (hey := by first | assumption | omega) (hle := by first | assumption | omega) (hen := by first | assumption | omega)) (cwV 4 hts gL_law_X7_turn rfl rfl rfl (by decide +kernel) ⟨Nat.le_of_ble_eq_true rfl, Nat.le_of_ble_eq_true rfl⟩) (preV_rw (wc := [oX a st, oTe a (nI ey) (nI le), aI cI (a 11) 1920 (oF t), aI cI (a 12) 64 bd, aI cI (a 13) 64 bs, oRo a (nI en), oCh a, aI cI (a 21) 8 (oF ln), aI cI (a 22) 8 (nF wd), aI cI (a 23) 8 (oF we), aI cI (a 24) 8 (nF wy), aI cI (a 25) 24 (oF va), aI cI (a 26) 24 (oF sv)]) hK hP hD [0, 2, 11, 12, 13, 6, 5, 21, 22, 23, 24, 25, 26] rfl rfl 7 0 rfl rfl rfl) rfl rfl hl.1 rfl (lv_room (Nat.le_of_ble_eq_true rfl)) dL_law_1090 ⟨Nat.le_of_ble_eq_true rfl, Nat.le_of_ble_eq_true rfl⟩) hP hD hS [0, 2, 11, 12, 13, 6, 5, 21, 22, 23, 24, 25, 26] rfl [a 0, a 2, a 11, a 12, a 13, a 6, a 5, a 21, a 22, a 23, a 24, a 25, a 26] (fun u => rfl) rfl (fun r_1090 u_ H locs hw_1090 hP hD hS => ?_)
    obtain ⟨ln2_1090, wd2_1090, we2_1090, wy2_1090, va2_1090, sv2_1090⟩ := u_
    have hP : va_P G vwCl [oX a (nI (qTurn t le ey en (xs (i + 1)) (xs (i + 2)) (xs (i + 3)) False)), oTr a, oTe a (nI ey) (nI le), oRa a mn, oSt a bl, oCh a, oRo a (nI en), oFr a up lo, aJ cJ (a 8) 240 z, aI cI (a 9) 4 (oF so), aI cI (a 10) 4 (nF sz), aI cI (a 11) 1920 (oF t), aI cI (a 12) 64 bd, aI cI (a 13) 64 bs, aI cI (a 14) 240 (nF gu), aI cI (a 15) 240 (nF gl), aI cI (a 16) 21 (nF k16), aI cI (a 17) 21 (nF k17), aI cI (a 18) 21 (nF k18), aI cI (a 19) 21 (nF k19), aI cI (a 20) 21 (nF k20), aI cI (a 21) 8 (oF ln2_1090), aI cI (a 22) 8 (nF wd2_1090), aI cI (a 23) 8 (oF we2_1090), aI cI (a 24) 8 (nF wy2_1090), aI cI (a 25) 24 (oF va2_1090), aI cI (a 26) 24 (oF sv2_1090), oM b st up lo (nI ey) (nI le) (nI en) (oI 0), aI cI (b 1) 4 (nF ms), aI cI (b 2) 4 (oF mm), aJ cJ (b 3) 240 mz, aI cI (b 4) 1920 gr, aI cI (b 5) 1920 sp, aI cI (b 6) 21 (nF cn), aI cI (b 7) 21 (nF su), aI cI (b 8) 8 (oF fa), aI cI (b 9) 8 (nF sg), aI cI (b 10) 8 (oF nx), aI cI (b 11) 64 (nF ti), aI cI (b 12) 64 (oF fx), aI cI (b 13) 8 (nF wyb), aI cI (b 14) 8 (oF web), aI cI (b 15) 24 (oF ro), aI cI (b 16) 24 (oF sm_)] H := hP
    have hD : va_D A [oX a (nI (qTurn t le ey en (xs (i + 1)) (xs (i + 2)) (xs (i + 3)) False)), oTr a, oTe a (nI ey) (nI le), oRa a mn, oSt a bl, oCh a, oRo a (nI en), oFr a up lo, aJ cJ (a 8) 240 z, aI cI (a 9) 4 (oF so), aI cI (a 10) 4 (nF sz), aI cI (a 11) 1920 (oF t), aI cI (a 12) 64 bd, aI cI (a 13) 64 bs, aI cI (a 14) 240 (nF gu), aI cI (a 15) 240 (nF gl), aI cI (a 16) 21 (nF k16), aI cI (a 17) 21 (nF k17), aI cI (a 18) 21 (nF k18), aI cI (a 19) 21 (nF k19), aI cI (a 20) 21 (nF k20), aI cI (a 21) 8 (oF ln2_1090), aI cI (a 22) 8 (nF wd2_1090), aI cI (a 23) 8 (oF we2_1090), aI cI (a 24) 8 (nF wy2_1090), aI cI (a 25) 24 (oF va2_1090), aI cI (a 26) 24 (oF sv2_1090), oM b st up lo (nI ey) (nI le) (nI en) (oI 0), aI cI (b 1) 4 (nF ms), aI cI (b 2) 4 (oF mm), aJ cJ (b 3) 240 mz, aI cI (b 4) 1920 gr, aI cI (b 5) 1920 sp, aI cI (b 6) 21 (nF cn), aI cI (b 7) 21 (nF su), aI cI (b 8) 8 (oF fa), aI cI (b 9) 8 (nF sg), aI cI (b 10) 8 (oF nx), aI cI (b 11) 64 (nF ti), aI cI (b 12) 64 (oF fx), aI cI (b 13) 8 (nF wyb), aI cI (b 14) 8 (oF web), aI cI (b 15) 24 (oF ro), aI cI (b 16) 24 (oF sm_)] := hD
    obtain ⟨hr_1090, hw_1090⟩ := hw_1090
    refine toi hr_1090 ?_
    refine lv_aload_n hx hb dL_law_1093 rfl (lv_at hl 2 rfl) ?_
    refine lv_aload_n hx hb dL_law_1094 rfl (lv_at hl 0 rfl) ?_
    refine lv_iload_n hx hb dL_law_1095 rfl (lv_at hl 3 rfl) ?_
    refine lv_iconst (v := nI 1) hx hb dL_law_1096 (by decide) ?_
    refine lv_iadd hx hb dL_law_1097 ?_
    refine toi (nI_add i 1) ?_
    refine va_sld hx hb hX hbl hbA hS (vp_in_nI (show i + 1 < L by omega) (by omega)) dL_law_1098 ?_
    refine toi (show xs (nI (i + 1)).toNatClampNeg = xs (i + 1) from by rw [nI_clamp (by omega)]) ?_
    refine lv_aload_n hx hb dL_law_1099 rfl (lv_at hl 0 rfl) ?_
    refine lv_iload_n hx hb dL_law_1100 rfl (lv_at hl 3 rfl) ?_
    refine lv_iconst (v := nI 2) hx hb dL_law_1101 (by decide) ?_
    refine lv_iadd hx hb dL_law_1102 ?_
    refine toi (nI_add i 2) ?_
    refine va_sld hx hb hX hbl hbA hS (vp_in_nI (show i + 2 < L by omega) (by omega)) dL_law_1103 ?_
    refine toi (show xs (nI (i + 2)).toNatClampNeg = xs (i + 2) from by rw [nI_clamp (by omega)]) ?_
    refine lv_aload_n hx hb dL_law_1104 rfl (lv_at hl 0 rfl) ?_
    refine lv_iload_n hx hb dL_law_1105 rfl (lv_at hl 3 rfl) ?_
    refine lv_iconst (v := nI 3) hx hb dL_law_1106 (by decide) ?_
    refine lv_iadd hx hb dL_law_1107 ?_
    refine toi (nI_add i 3) ?_
    refine va_sld hx hb hX hbl hbA hS (vp_in_nI (show i + 3 < L by omega) (by omega)) dL_law_1108 ?_
    refine toi (show xs (nI (i + 3)).toNatClampNeg = xs (i + 3) from by rw [nI_clamp (by omega)]) ?_
    refine lv_aload_n hx hb dL_law_1109 rfl (lv_at hl 0 rfl) ?_
    refine lv_iload_n hx hb dL_law_1110 rfl (lv_at hl 3 rfl) ?_
    refine lv_iconst (v := nI 4) hx hb dL_law_1111 (by decide) ?_
    refine lv_iadd hx hb dL_law_1112 ?_
    refine toi (nI_add i 4) ?_
    refine va_sld hx hb hX hbl hbA hS (vp_in_nI (show i + 4 < L by omega) (by omega)) dL_law_1113 ?_
    refine toi (show xs (nI (i + 4)).toNatClampNeg = xs (i + 4) from by rw [nI_clamp (by omega)]) ?_
    refine lv_if_eq (tgt := 1121) hx hb dL_law_1114 (by decide) (fun c_1114 => ?_) (fun c_1114 => ?_)
    · refine lv_iconst (v := nI 0) hx hb dL_law_1121 (by decide) ?_
      refine toi (show nI 0 = bi False from (bi_f (fun h => h)).symm) ?_
      refine crw_i (va_runV (As := [.int (xs (i + 1)), .int (xs (i + 2)), .int (xs (i + 3)), .int (bi False)]) (rest := [.int (oI (rTurn t le ey en (xs (i + 1)) (xs (i + 2)) (xs (i + 3)) False))]) ⟨hx, hb, hml, hown, hts⟩ (c_X8_turn l G cI cJ (b := b) (st := st) (tp := up) (bt := lo) (ey := ey) (le := le) (en := en) (t := t) (gr := gr) (sp := sp) (fa := fa) (sg := sg) (nx := nx) (ti := ti) (fx := fx) (wy := wyb) (we := web) (ro := ro) (sm_ := sm_) (k := xs (i + 1)) (w := xs (i + 2)) (rc := xs (i + 3)) (hi := False) (tb := by first | assumption | omega) (hey := by first | assumption | omega) (hG := by first | assumption | omega) (hle := by first | assumption | omega) (wb := by first | assumption | omega) (hen := by first | assumption | omega)) (cwV 4 hts gL_law_X8_turn rfl rfl rfl (by decide +kernel) ⟨Nat.le_of_ble_eq_true rfl, Nat.le_of_ble_eq_true rfl⟩) (preV_rw (wc := [oM b st up lo (nI ey) (nI le) (nI en) (oI 0), aI cI (b 4) 1920 gr, aI cI (b 5) 1920 sp, aI cI (b 8) 8 (oF fa), aI cI (b 9) 8 (nF sg), aI cI (b 10) 8 (oF nx), aI cI (b 11) 64 (nF ti), aI cI (b 12) 64 (oF fx), aI cI (b 13) 8 (nF wyb), aI cI (b 14) 8 (oF web), aI cI (b 15) 24 (oF ro), aI cI (b 16) 24 (oF sm_)]) hK hP hD [27, 31, 32, 35, 36, 37, 38, 39, 40, 41, 42, 43] rfl rfl 8 27 rfl rfl rfl) rfl rfl hl.1 rfl (lv_room (Nat.le_of_ble_eq_true rfl)) dL_law_1122 ⟨Nat.le_of_ble_eq_true rfl, Nat.le_of_ble_eq_true rfl⟩) hP hD hS [27, 31, 32, 35, 36, 37, 38, 39, 40, 41, 42, 43] rfl [b 0, b 4, b 5, b 8, b 9, b 10, b 11, b 12, b 13, b 14, b 15, b 16] (fun u => rfl) rfl (fun r_1122 u_ H locs hw_1122 hP hD hS => ?_)
      obtain ⟨fa2_1122, sg2_1122, nx2_1122, ti2_1122, fx2_1122, wy2_1122, we2_1122, ro2_1122, sm2_1122⟩ := u_
      have hP : va_P G vwCl [oX a (nI (qTurn t le ey en (xs (i + 1)) (xs (i + 2)) (xs (i + 3)) False)), oTr a, oTe a (nI ey) (nI le), oRa a mn, oSt a bl, oCh a, oRo a (nI en), oFr a up lo, aJ cJ (a 8) 240 z, aI cI (a 9) 4 (oF so), aI cI (a 10) 4 (nF sz), aI cI (a 11) 1920 (oF t), aI cI (a 12) 64 bd, aI cI (a 13) 64 bs, aI cI (a 14) 240 (nF gu), aI cI (a 15) 240 (nF gl), aI cI (a 16) 21 (nF k16), aI cI (a 17) 21 (nF k17), aI cI (a 18) 21 (nF k18), aI cI (a 19) 21 (nF k19), aI cI (a 20) 21 (nF k20), aI cI (a 21) 8 (oF ln2_1090), aI cI (a 22) 8 (nF wd2_1090), aI cI (a 23) 8 (oF we2_1090), aI cI (a 24) 8 (nF wy2_1090), aI cI (a 25) 24 (oF va2_1090), aI cI (a 26) 24 (oF sv2_1090), oM b (nI (qTurn t le ey en (xs (i + 1)) (xs (i + 2)) (xs (i + 3)) False)) up lo (nI ey) (nI le) (nI en) (oI 0), aI cI (b 1) 4 (nF ms), aI cI (b 2) 4 (oF mm), aJ cJ (b 3) 240 mz, aI cI (b 4) 1920 gr, aI cI (b 5) 1920 sp, aI cI (b 6) 21 (nF cn), aI cI (b 7) 21 (nF su), aI cI (b 8) 8 (oF fa2_1122), aI cI (b 9) 8 (nF sg2_1122), aI cI (b 10) 8 (oF nx2_1122), aI cI (b 11) 64 (nF ti2_1122), aI cI (b 12) 64 (oF fx2_1122), aI cI (b 13) 8 (nF wy2_1122), aI cI (b 14) 8 (oF we2_1122), aI cI (b 15) 24 (oF ro2_1122), aI cI (b 16) 24 (oF sm2_1122)] H := hP
      have hD : va_D A [oX a (nI (qTurn t le ey en (xs (i + 1)) (xs (i + 2)) (xs (i + 3)) False)), oTr a, oTe a (nI ey) (nI le), oRa a mn, oSt a bl, oCh a, oRo a (nI en), oFr a up lo, aJ cJ (a 8) 240 z, aI cI (a 9) 4 (oF so), aI cI (a 10) 4 (nF sz), aI cI (a 11) 1920 (oF t), aI cI (a 12) 64 bd, aI cI (a 13) 64 bs, aI cI (a 14) 240 (nF gu), aI cI (a 15) 240 (nF gl), aI cI (a 16) 21 (nF k16), aI cI (a 17) 21 (nF k17), aI cI (a 18) 21 (nF k18), aI cI (a 19) 21 (nF k19), aI cI (a 20) 21 (nF k20), aI cI (a 21) 8 (oF ln2_1090), aI cI (a 22) 8 (nF wd2_1090), aI cI (a 23) 8 (oF we2_1090), aI cI (a 24) 8 (nF wy2_1090), aI cI (a 25) 24 (oF va2_1090), aI cI (a 26) 24 (oF sv2_1090), oM b (nI (qTurn t le ey en (xs (i + 1)) (xs (i + 2)) (xs (i + 3)) False)) up lo (nI ey) (nI le) (nI en) (oI 0), aI cI (b 1) 4 (nF ms), aI cI (b 2) 4 (oF mm), aJ cJ (b 3) 240 mz, aI cI (b 4) 1920 gr, aI cI (b 5) 1920 sp, aI cI (b 6) 21 (nF cn), aI cI (b 7) 21 (nF su), aI cI (b 8) 8 (oF fa2_1122), aI cI (b 9) 8 (nF sg2_1122), aI cI (b 10) 8 (oF nx2_1122), aI cI (b 11) 64 (nF ti2_1122), aI cI (b 12) 64 (oF fx2_1122), aI cI (b 13) 8 (nF wy2_1122), aI cI (b 14) 8 (oF we2_1122), aI cI (b 15) 24 (oF ro2_1122), aI cI (b 16) 24 (oF sm2_1122)] := hD
      obtain ⟨hr_1122, hw_1122⟩ := hw_1122
      refine toi hr_1122 ?_
      refine lv_icmp_eq (tgt := 1163) hx hb dL_law_1125 (by decide) (fun _ => ?_) (fun h => absurd rfl h)
      exact kk _ _ ⟨nI (qTurn t le ey en (xs (i + 1)) (xs (i + 2)) (xs (i + 3)) False), up, lo, ey, le, en, t, so, sz, z, bd, bs, mn, bl, gu, gl, k16, k17, k18, k19, k20, ln2_1090, wd2_1090, we2_1090, wy2_1090, va2_1090, sv2_1090, ms, mm, mz, gr, sp, cn, su, fa2_1122, sg2_1122, nx2_1122, ti2_1122, fx2_1122, wy2_1122, we2_1122, ro2_1122, sm2_1122, hP, hD, tb, hT, hz, ts, hM, hG, hey, hle, hen, hw_1122⟩ hS
    exact absurd c_1082 c_1114
  refine lv_iconst (v := nI 1) hx hb dL_law_1085 (by decide) ?_
  refine lv_goto (tgt := 1090) hx hb dL_law_1086 (by decide) ?_
  refine toi (show nI 1 = bi True from (bi_t trivial).symm) ?_
  refine crw_i (va_runV (As := [.int (xs (i + 1)), .int (xs (i + 2)), .int (xs (i + 3)), .int (bi True)]) (rest := []) ⟨hx, hb, hml, hown, hts⟩ (c_X7_turn l G cI cJ (a := a) (oc := st) (ey := ey) (le := le) (t := t) (bd := bd) (bs := bs) (en := en) (ln := ln) (wd := wd) (we := we) (wy := wy) (va := va) (sv := sv) (k := xs (i + 1)) (w := xs (i + 2)) (rc := xs (i + 3)) (hi := True) (tb := by first | assumption | omega) (hT := by first | assumption | omega) (hey := by first | assumption | omega) (hle := by first | assumption | omega) (hen := by first | assumption | omega)) (cwV 4 hts gL_law_X7_turn rfl rfl rfl (by decide +kernel) ⟨Nat.le_of_ble_eq_true rfl, Nat.le_of_ble_eq_true rfl⟩) (preV_rw (wc := [oX a st, oTe a (nI ey) (nI le), aI cI (a 11) 1920 (oF t), aI cI (a 12) 64 bd, aI cI (a 13) 64 bs, oRo a (nI en), oCh a, aI cI (a 21) 8 (oF ln), aI cI (a 22) 8 (nF wd), aI cI (a 23) 8 (oF we), aI cI (a 24) 8 (nF wy), aI cI (a 25) 24 (oF va), aI cI (a 26) 24 (oF sv)]) hK hP hD [0, 2, 11, 12, 13, 6, 5, 21, 22, 23, 24, 25, 26] rfl rfl 7 0 rfl rfl rfl) rfl rfl hl.1 rfl (lv_room (Nat.le_of_ble_eq_true rfl)) dL_law_1090 ⟨Nat.le_of_ble_eq_true rfl, Nat.le_of_ble_eq_true rfl⟩) hP hD hS [0, 2, 11, 12, 13, 6, 5, 21, 22, 23, 24, 25, 26] rfl [a 0, a 2, a 11, a 12, a 13, a 6, a 5, a 21, a 22, a 23, a 24, a 25, a 26] (fun u => rfl) rfl (fun r_1090 u_ H locs hw_1090 hP hD hS => ?_)
  obtain ⟨ln2_1090, wd2_1090, we2_1090, wy2_1090, va2_1090, sv2_1090⟩ := u_
  have hP : va_P G vwCl [oX a (nI (qTurn t le ey en (xs (i + 1)) (xs (i + 2)) (xs (i + 3)) True)), oTr a, oTe a (nI ey) (nI le), oRa a mn, oSt a bl, oCh a, oRo a (nI en), oFr a up lo, aJ cJ (a 8) 240 z, aI cI (a 9) 4 (oF so), aI cI (a 10) 4 (nF sz), aI cI (a 11) 1920 (oF t), aI cI (a 12) 64 bd, aI cI (a 13) 64 bs, aI cI (a 14) 240 (nF gu), aI cI (a 15) 240 (nF gl), aI cI (a 16) 21 (nF k16), aI cI (a 17) 21 (nF k17), aI cI (a 18) 21 (nF k18), aI cI (a 19) 21 (nF k19), aI cI (a 20) 21 (nF k20), aI cI (a 21) 8 (oF ln2_1090), aI cI (a 22) 8 (nF wd2_1090), aI cI (a 23) 8 (oF we2_1090), aI cI (a 24) 8 (nF wy2_1090), aI cI (a 25) 24 (oF va2_1090), aI cI (a 26) 24 (oF sv2_1090), oM b st up lo (nI ey) (nI le) (nI en) (oI 0), aI cI (b 1) 4 (nF ms), aI cI (b 2) 4 (oF mm), aJ cJ (b 3) 240 mz, aI cI (b 4) 1920 gr, aI cI (b 5) 1920 sp, aI cI (b 6) 21 (nF cn), aI cI (b 7) 21 (nF su), aI cI (b 8) 8 (oF fa), aI cI (b 9) 8 (nF sg), aI cI (b 10) 8 (oF nx), aI cI (b 11) 64 (nF ti), aI cI (b 12) 64 (oF fx), aI cI (b 13) 8 (nF wyb), aI cI (b 14) 8 (oF web), aI cI (b 15) 24 (oF ro), aI cI (b 16) 24 (oF sm_)] H := hP
  have hD : va_D A [oX a (nI (qTurn t le ey en (xs (i + 1)) (xs (i + 2)) (xs (i + 3)) True)), oTr a, oTe a (nI ey) (nI le), oRa a mn, oSt a bl, oCh a, oRo a (nI en), oFr a up lo, aJ cJ (a 8) 240 z, aI cI (a 9) 4 (oF so), aI cI (a 10) 4 (nF sz), aI cI (a 11) 1920 (oF t), aI cI (a 12) 64 bd, aI cI (a 13) 64 bs, aI cI (a 14) 240 (nF gu), aI cI (a 15) 240 (nF gl), aI cI (a 16) 21 (nF k16), aI cI (a 17) 21 (nF k17), aI cI (a 18) 21 (nF k18), aI cI (a 19) 21 (nF k19), aI cI (a 20) 21 (nF k20), aI cI (a 21) 8 (oF ln2_1090), aI cI (a 22) 8 (nF wd2_1090), aI cI (a 23) 8 (oF we2_1090), aI cI (a 24) 8 (nF wy2_1090), aI cI (a 25) 24 (oF va2_1090), aI cI (a 26) 24 (oF sv2_1090), oM b st up lo (nI ey) (nI le) (nI en) (oI 0), aI cI (b 1) 4 (nF ms), aI cI (b 2) 4 (oF mm), aJ cJ (b 3) 240 mz, aI cI (b 4) 1920 gr, aI cI (b 5) 1920 sp, aI cI (b 6) 21 (nF cn), aI cI (b 7) 21 (nF su), aI cI (b 8) 8 (oF fa), aI cI (b 9) 8 (nF sg), aI cI (b 10) 8 (oF nx), aI cI (b 11) 64 (nF ti), aI cI (b 12) 64 (oF fx), aI cI (b 13) 8 (nF wyb), aI cI (b 14) 8 (oF web), aI cI (b 15) 24 (oF ro), aI cI (b 16) 24 (oF sm_)] := hD
  obtain ⟨hr_1090, hw_1090⟩ := hw_1090
  refine toi hr_1090 ?_
  refine lv_aload_n hx hb dL_law_1093 rfl (lv_at hl 2 rfl) ?_
  refine lv_aload_n hx hb dL_law_1094 rfl (lv_at hl 0 rfl) ?_
  refine lv_iload_n hx hb dL_law_1095 rfl (lv_at hl 3 rfl) ?_
  refine lv_iconst (v := nI 1) hx hb dL_law_1096 (by decide) ?_
  refine lv_iadd hx hb dL_law_1097 ?_
  refine toi (nI_add i 1) ?_
  refine va_sld hx hb hX hbl hbA hS (vp_in_nI (show i + 1 < L by omega) (by omega)) dL_law_1098 ?_
  refine toi (show xs (nI (i + 1)).toNatClampNeg = xs (i + 1) from by rw [nI_clamp (by omega)]) ?_
  refine lv_aload_n hx hb dL_law_1099 rfl (lv_at hl 0 rfl) ?_
  refine lv_iload_n hx hb dL_law_1100 rfl (lv_at hl 3 rfl) ?_
  refine lv_iconst (v := nI 2) hx hb dL_law_1101 (by decide) ?_
  refine lv_iadd hx hb dL_law_1102 ?_
  refine toi (nI_add i 2) ?_
  refine va_sld hx hb hX hbl hbA hS (vp_in_nI (show i + 2 < L by omega) (by omega)) dL_law_1103 ?_
  refine toi (show xs (nI (i + 2)).toNatClampNeg = xs (i + 2) from by rw [nI_clamp (by omega)]) ?_
  refine lv_aload_n hx hb dL_law_1104 rfl (lv_at hl 0 rfl) ?_
  refine lv_iload_n hx hb dL_law_1105 rfl (lv_at hl 3 rfl) ?_
  refine lv_iconst (v := nI 3) hx hb dL_law_1106 (by decide) ?_
  refine lv_iadd hx hb dL_law_1107 ?_
  refine toi (nI_add i 3) ?_
  refine va_sld hx hb hX hbl hbA hS (vp_in_nI (show i + 3 < L by omega) (by omega)) dL_law_1108 ?_
  refine toi (show xs (nI (i + 3)).toNatClampNeg = xs (i + 3) from by rw [nI_clamp (by omega)]) ?_
  refine lv_aload_n hx hb dL_law_1109 rfl (lv_at hl 0 rfl) ?_
  refine lv_iload_n hx hb dL_law_1110 rfl (lv_at hl 3 rfl) ?_
  refine lv_iconst (v := nI 4) hx hb dL_law_1111 (by decide) ?_
  refine lv_iadd hx hb dL_law_1112 ?_
  refine toi (nI_add i 4) ?_
  refine va_sld hx hb hX hbl hbA hS (vp_in_nI (show i + 4 < L by omega) (by omega)) dL_law_1113 ?_
  refine toi (show xs (nI (i + 4)).toNatClampNeg = xs (i + 4) from by rw [nI_clamp (by omega)]) ?_
  refine lv_if_eq (tgt := 1121) hx hb dL_law_1114 (by decide) (fun c_1114 => ?_) (fun c_1114 => ?_)
  · exact absurd c_1114 c_1082
  refine lv_iconst (v := nI 1) hx hb dL_law_1117 (by decide) ?_
  refine lv_goto (tgt := 1122) hx hb dL_law_1118 (by decide) ?_
  refine toi (show nI 1 = bi True from (bi_t trivial).symm) ?_
  refine crw_i (va_runV (As := [.int (xs (i + 1)), .int (xs (i + 2)), .int (xs (i + 3)), .int (bi True)]) (rest := [.int (oI (rTurn t le ey en (xs (i + 1)) (xs (i + 2)) (xs (i + 3)) True))]) ⟨hx, hb, hml, hown, hts⟩ (c_X8_turn l G cI cJ (b := b) (st := st) (tp := up) (bt := lo) (ey := ey) (le := le) (en := en) (t := t) (gr := gr) (sp := sp) (fa := fa) (sg := sg) (nx := nx) (ti := ti) (fx := fx) (wy := wyb) (we := web) (ro := ro) (sm_ := sm_) (k := xs (i + 1)) (w := xs (i + 2)) (rc := xs (i + 3)) (hi := True) (tb := by first | assumption | omega) (hey := by first | assumption | omega) (hG := by first | assumption | omega) (hle := by first | assumption | omega) (wb := by first | assumption | omega) (hen := by first | assumption | omega)) (cwV 4 hts gL_law_X8_turn rfl rfl rfl (by decide +kernel) ⟨Nat.le_of_ble_eq_true rfl, Nat.le_of_ble_eq_true rfl⟩) (preV_rw (wc := [oM b st up lo (nI ey) (nI le) (nI en) (oI 0), aI cI (b 4) 1920 gr, aI cI (b 5) 1920 sp, aI cI (b 8) 8 (oF fa), aI cI (b 9) 8 (nF sg), aI cI (b 10) 8 (oF nx), aI cI (b 11) 64 (nF ti), aI cI (b 12) 64 (oF fx), aI cI (b 13) 8 (nF wyb), aI cI (b 14) 8 (oF web), aI cI (b 15) 24 (oF ro), aI cI (b 16) 24 (oF sm_)]) hK hP hD [27, 31, 32, 35, 36, 37, 38, 39, 40, 41, 42, 43] rfl rfl 8 27 rfl rfl rfl) rfl rfl hl.1 rfl (lv_room (Nat.le_of_ble_eq_true rfl)) dL_law_1122 ⟨Nat.le_of_ble_eq_true rfl, Nat.le_of_ble_eq_true rfl⟩) hP hD hS [27, 31, 32, 35, 36, 37, 38, 39, 40, 41, 42, 43] rfl [b 0, b 4, b 5, b 8, b 9, b 10, b 11, b 12, b 13, b 14, b 15, b 16] (fun u => rfl) rfl (fun r_1122 u_ H locs hw_1122 hP hD hS => ?_)
  obtain ⟨fa2_1122, sg2_1122, nx2_1122, ti2_1122, fx2_1122, wy2_1122, we2_1122, ro2_1122, sm2_1122⟩ := u_
  have hP : va_P G vwCl [oX a (nI (qTurn t le ey en (xs (i + 1)) (xs (i + 2)) (xs (i + 3)) True)), oTr a, oTe a (nI ey) (nI le), oRa a mn, oSt a bl, oCh a, oRo a (nI en), oFr a up lo, aJ cJ (a 8) 240 z, aI cI (a 9) 4 (oF so), aI cI (a 10) 4 (nF sz), aI cI (a 11) 1920 (oF t), aI cI (a 12) 64 bd, aI cI (a 13) 64 bs, aI cI (a 14) 240 (nF gu), aI cI (a 15) 240 (nF gl), aI cI (a 16) 21 (nF k16), aI cI (a 17) 21 (nF k17), aI cI (a 18) 21 (nF k18), aI cI (a 19) 21 (nF k19), aI cI (a 20) 21 (nF k20), aI cI (a 21) 8 (oF ln2_1090), aI cI (a 22) 8 (nF wd2_1090), aI cI (a 23) 8 (oF we2_1090), aI cI (a 24) 8 (nF wy2_1090), aI cI (a 25) 24 (oF va2_1090), aI cI (a 26) 24 (oF sv2_1090), oM b (nI (qTurn t le ey en (xs (i + 1)) (xs (i + 2)) (xs (i + 3)) True)) up lo (nI ey) (nI le) (nI en) (oI 0), aI cI (b 1) 4 (nF ms), aI cI (b 2) 4 (oF mm), aJ cJ (b 3) 240 mz, aI cI (b 4) 1920 gr, aI cI (b 5) 1920 sp, aI cI (b 6) 21 (nF cn), aI cI (b 7) 21 (nF su), aI cI (b 8) 8 (oF fa2_1122), aI cI (b 9) 8 (nF sg2_1122), aI cI (b 10) 8 (oF nx2_1122), aI cI (b 11) 64 (nF ti2_1122), aI cI (b 12) 64 (oF fx2_1122), aI cI (b 13) 8 (nF wy2_1122), aI cI (b 14) 8 (oF we2_1122), aI cI (b 15) 24 (oF ro2_1122), aI cI (b 16) 24 (oF sm2_1122)] H := hP
  have hD : va_D A [oX a (nI (qTurn t le ey en (xs (i + 1)) (xs (i + 2)) (xs (i + 3)) True)), oTr a, oTe a (nI ey) (nI le), oRa a mn, oSt a bl, oCh a, oRo a (nI en), oFr a up lo, aJ cJ (a 8) 240 z, aI cI (a 9) 4 (oF so), aI cI (a 10) 4 (nF sz), aI cI (a 11) 1920 (oF t), aI cI (a 12) 64 bd, aI cI (a 13) 64 bs, aI cI (a 14) 240 (nF gu), aI cI (a 15) 240 (nF gl), aI cI (a 16) 21 (nF k16), aI cI (a 17) 21 (nF k17), aI cI (a 18) 21 (nF k18), aI cI (a 19) 21 (nF k19), aI cI (a 20) 21 (nF k20), aI cI (a 21) 8 (oF ln2_1090), aI cI (a 22) 8 (nF wd2_1090), aI cI (a 23) 8 (oF we2_1090), aI cI (a 24) 8 (nF wy2_1090), aI cI (a 25) 24 (oF va2_1090), aI cI (a 26) 24 (oF sv2_1090), oM b (nI (qTurn t le ey en (xs (i + 1)) (xs (i + 2)) (xs (i + 3)) True)) up lo (nI ey) (nI le) (nI en) (oI 0), aI cI (b 1) 4 (nF ms), aI cI (b 2) 4 (oF mm), aJ cJ (b 3) 240 mz, aI cI (b 4) 1920 gr, aI cI (b 5) 1920 sp, aI cI (b 6) 21 (nF cn), aI cI (b 7) 21 (nF su), aI cI (b 8) 8 (oF fa2_1122), aI cI (b 9) 8 (nF sg2_1122), aI cI (b 10) 8 (oF nx2_1122), aI cI (b 11) 64 (nF ti2_1122), aI cI (b 12) 64 (oF fx2_1122), aI cI (b 13) 8 (nF wy2_1122), aI cI (b 14) 8 (oF we2_1122), aI cI (b 15) 24 (oF ro2_1122), aI cI (b 16) 24 (oF sm2_1122)] := hD
  obtain ⟨hr_1122, hw_1122⟩ := hw_1122
  refine toi hr_1122 ?_
  refine lv_icmp_eq (tgt := 1163) hx hb dL_law_1125 (by decide) (fun _ => ?_) (fun h => absurd rfl h)
  exact kk _ _ ⟨nI (qTurn t le ey en (xs (i + 1)) (xs (i + 2)) (xs (i + 3)) True), up, lo, ey, le, en, t, so, sz, z, bd, bs, mn, bl, gu, gl, k16, k17, k18, k19, k20, ln2_1090, wd2_1090, we2_1090, wy2_1090, va2_1090, sv2_1090, ms, mm, mz, gr, sp, cn, su, fa2_1122, sg2_1122, nx2_1122, ti2_1122, fx2_1122, wy2_1122, we2_1122, ro2_1122, sm2_1122, hP, hD, tb, hT, hz, ts, hM, hG, hey, hle, hen, hw_1122⟩ hS
