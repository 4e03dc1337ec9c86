set_option maxHeartbeats 400000 in
set_option maxRecDepth 100000 in
theorem c_X8_is (l : Launch) (G : va_G) (cI cJ : ClassId) (b : Nat → Nat) (st : Int32) (tp : Int64) (bt : Int64) (ey : Nat) (le : Int32) (en : Int32) (wo : Int32) (w : Nat) (hw : w < 2 ^ 31) : Met l yX8_is wsX8_is ({ frames := 0, cells := 0, slots := 0, locals := 0 }) (rwP G cI cJ [.ref (b 0), .int (nI w)] [oM b st tp bt (nI ey) le en wo]) (rwQi G [oM b st tp bt (nI ey) le en wo] (fun (r : Int32) (_ : Unit) => r = bi (w = 0)) (fun (_ : Unit) => [oM b (nI w) tp bt (nI ey) le en wo])) 0 0 (ads [oM b st tp bt (nI ey) le en wo]) := by
  refine Met.ofW (cc := cX8_is) (maxL := 2) (ret := (some .boolean)) (by decide) rfl ?_
  intro pg ev s mt args below meth cd s₁ B hml hv
  obtain ⟨rfl, hP, hD0, hK⟩ := hv
  have hx := B.exec
  have hb := B.bytes
  have hr := B.returns
  have hts := atoms_spec (ws := wsX8_is) B.pre
  have hown : s.vm.findClass RX8 = some mt.cls := findClass_of_methodNamed B.named
  have hlocks := B.notSynchronized
  have hD := ads_self hD0
  generalize hAe : ads [oM b st tp bt (nI ey) le en wo] = A at hD ⊢
  have hS : va_S A s.heap s.heap [] := va_S.rf
  have hP : va_P G vwCl [oM b st tp bt (nI ey) le en wo] s.heap := hP
  have hinX8 := (show ∀ w ∈ u_ws RX8 TX8 23, w ∈ wsX8_is by decide +kernel)
  have fl73 := hts (.fieldLink RX8 73 "SpotRowsModel" "status" "I") (by decide +kernel)
  have hl := lv_entry ([.ref (b 0), .int (nI w)]) (n := 2) (Nat.le_of_ble_eq_true rfl)
  rw [lg_entry_eq]
  generalize (lg_sl ([.ref (b 0), .int (nI w)]) ++ List.replicate (2 - (lg_sl ([.ref (b 0), .int (nI w)])).length) Slot.unset).toArray = ls at hl ⊢
  have hl : lv_has ls 2 [(0, .ref (b 0)), (1, .int (nI w))] := hl
  refine lv_aload_n hx hb dX8_is_0 rfl (lv_at hl 0 rfl) ?_
  refine lv_iload_n hx hb dX8_is_1 rfl (lv_at hl 1 rfl) ?_
  refine va_put (D := G) (own := RX8) (ref := "SpotRowsModel") (ci := 8) (v := .int (nI w)) (ty := .int) (C := RX8) (T := TX8) (N := 23) hx hb hts hinX8 tyX8 tyX8_ok nmX8 hown hK.1 hP hD hS 0 rfl rfl 0 (by decide) fl73 (fun _ h9 => h9) rfl (by decide +kernel) rfl rfl (Nat.le_of_ble_eq_true rfl) dX8_is_2 (fun H locs hP hD hS => ?_)
  have hP : va_P G vwCl [oM b (nI w) tp bt (nI ey) le en wo] H := hP
  have hD : va_D A [oM b (nI w) tp bt (nI ey) le en wo] := hD
  refine lv_iload_n hx hb dX8_is_5 rfl (lv_at hl 1 rfl) ?_
  refine nv_if_ne (tgt := 13) hx hb dX8_is_6 (by decide) (by omega) (fun c_6 => ?_) (fun c_6 => ?_)
  · refine lv_iconst (v := nI 0) hx hb dX8_is_13 (by decide) ?_
    exact W.zret (v := nI 0) hx hb hr rfl (fun zt ht zw => ⟨⟨_, (), rfl, (show nI 0 = bi (w = 0) from (bi_f (by first | rfl | omega | (simp_all; done))).symm), by show va_P _ _ _ zt.heap; rw [ht]; exact hP⟩, by rw [hAe]; exact hS.F ht⟩) hS.2.2 dX8_is_14
  refine lv_iconst (v := nI 1) hx hb dX8_is_9 (by decide) ?_
  refine lv_goto (tgt := 14) hx hb dX8_is_10 (by decide) ?_
  exact W.zret (v := nI 1) hx hb hr rfl (fun zt ht zw => ⟨⟨_, (), rfl, (show nI 1 = bi (w = 0) from (bi_t (by first | rfl | omega | (simp_all; done))).symm), by show va_P _ _ _ zt.heap; rw [ht]; exact hP⟩, by rw [hAe]; exact hS.F ht⟩) hS.2.2 dX8_is_14

set_option maxHeartbeats 400000 in
set_option maxRecDepth 100000 in
theorem c_X8_refuse (l : Launch) (G : va_G) (cI cJ : ClassId) (b : Nat → Nat) (st : Int32) (tp : Int64) (bt : Int64) (ey : Nat) (le : Int32) (en : Int32) (wo : Int32) (w : Int32)  : Met l yX8_refuse wsX8_refuse ({ frames := 0, cells := 0, slots := 0, locals := 0 }) (rwP G cI cJ [.ref (b 0), .int w] [oM b st tp bt (nI ey) le en wo]) (rwQi G [oM b st tp bt (nI ey) le en wo] (fun (r : Int32) (_ : Unit) => r = (-1)) (fun (_ : Unit) => [oM b w tp bt (nI ey) le en wo])) 0 0 (ads [oM b st tp bt (nI ey) le en wo]) := by
  refine Met.ofW (cc := cX8_refuse) (maxL := 2) (ret := (some .int)) (by decide) rfl ?_
  intro pg ev s mt args below meth cd s₁ B hml hv
  obtain ⟨rfl, hP, hD0, hK⟩ := hv
  have hx := B.exec
  have hb := B.bytes
  have hr := B.returns
  have hts := atoms_spec (ws := wsX8_refuse) B.pre
  have hown : s.vm.findClass RX8 = some mt.cls := findClass_of_methodNamed B.named
  have hlocks := B.notSynchronized
  have hD := ads_self hD0
  generalize hAe : ads [oM b st tp bt (nI ey) le en wo] = A at hD ⊢
  have hS : va_S A s.heap s.heap [] := va_S.rf
  have hP : va_P G vwCl [oM b st tp bt (nI ey) le en wo] s.heap := hP
  have hinX8 := (show ∀ w ∈ u_ws RX8 TX8 23, w ∈ wsX8_refuse by decide +kernel)
  have fl73 := hts (.fieldLink RX8 73 "SpotRowsModel" "status" "I") (by decide +kernel)
  have hl := lv_entry ([.ref (b 0), .int w]) (n := 2) (Nat.le_of_ble_eq_true rfl)
  rw [lg_entry_eq]
  generalize (lg_sl ([.ref (b 0), .int w]) ++ List.replicate (2 - (lg_sl ([.ref (b 0), .int w])).length) Slot.unset).toArray = ls at hl ⊢
  have hl : lv_has ls 2 [(0, .ref (b 0)), (1, .int w)] := hl
  refine lv_aload_n hx hb dX8_refuse_0 rfl (lv_at hl 0 rfl) ?_
  refine lv_iload_n hx hb dX8_refuse_1 rfl (lv_at hl 1 rfl) ?_
  refine va_put (D := G) (own := RX8) (ref := "SpotRowsModel") (ci := 8) (v := .int w) (ty := .int) (C := RX8) (T := TX8) (N := 23) hx hb hts hinX8 tyX8 tyX8_ok nmX8 hown hK.1 hP hD hS 0 rfl rfl 0 (by decide) fl73 (fun _ h9 => h9) rfl (by decide +kernel) rfl rfl (Nat.le_of_ble_eq_true rfl) dX8_refuse_2 (fun H locs hP hD hS => ?_)
  have hP : va_P G vwCl [oM b w tp bt (nI ey) le en wo] H := hP
  have hD : va_D A [oM b w tp bt (nI ey) le en wo] := hD
  refine lv_iconst (v := (-1)) hx hb dX8_refuse_5 (by decide) ?_
  exact W.iret (v := (-1)) hx hb hr (fun zt ht zw => ⟨⟨_, (), rfl, rfl, by show va_P _ _ _ zt.heap; rw [ht]; exact hP⟩, by rw [hAe]; exact hS.F ht⟩) hS.2.2 dX8_refuse_6

set_option maxHeartbeats 400000 in
set_option maxRecDepth 100000 in
theorem c_X8_isTray (l : Launch) (G : va_G) (cI cJ : ClassId) (x : Int32)  : Met l yX8_isTray wsX8_isTray ({ frames := 0, cells := 0, slots := 0, locals := 0 }) (roP G cI cJ [.int x] []) (vp_Si (fun r => r = bi (rg x 4))) 0 0 (fun _ => False) := by
  refine Met.ofW (cc := cX8_isTray) (maxL := 1) (ret := (some .boolean)) (by decide) rfl ?_
  intro pg ev s mt args below meth cd s₁ B hml hv
  obtain ⟨rfl, hP, hK⟩ := hv
  have hx := B.exec
  have hb := B.bytes
  have hr := B.returns
  have hts := atoms_spec (ws := wsX8_isTray) B.pre
  have hown : s.vm.findClass RX8 = some mt.cls := findClass_of_methodNamed B.named
  have hlocks := B.notSynchronized
  have hP : va_P G vwCl [] s.heap := hP
  have hl := lv_entry ([.int x]) (n := 1) (Nat.le_of_ble_eq_true rfl)
  rw [lg_entry_eq]
  generalize (lg_sl ([.int x]) ++ List.replicate (1 - (lg_sl ([.int x])).length) Slot.unset).toArray = ls at hl ⊢
  have hl : lv_has ls 1 [(0, .int x)] := hl
  refine lv_iload_n hx hb dX8_isTray_0 rfl (lv_at hl 0 rfl) ?_
  refine lv_if_lt (tgt := 13) hx hb dX8_isTray_1 (by decide) (fun c_1 => ?_) (fun c_1 => ?_)
  · refine lv_iconst (v := nI 0) hx hb dX8_isTray_13 (by decide) ?_
    exact W.zret (v := nI 0) hx hb hr rfl (fun zt ht zw => ⟨_, rfl, (show nI 0 = bi (rg x 4) from (bi_f (by first | exact nrg_lt c_1 | exact nrg_ge c_6 (by omega) | exact rg_of c_1 c_6 (by omega))).symm), ht⟩) (fun q hq => absurd hq List.not_mem_nil) dX8_isTray_14
  refine lv_iload_n hx hb dX8_isTray_4 rfl (lv_at hl 0 rfl) ?_
  refine lv_iconst (v := nI 4) hx hb dX8_isTray_5 (by decide) ?_
  refine lv_icmp_ge (tgt := 13) hx hb dX8_isTray_6 (by decide) (fun c_6 => ?_) (fun c_6 => ?_)
  · refine lv_iconst (v := nI 0) hx hb dX8_isTray_13 (by decide) ?_
    exact W.zret (v := nI 0) hx hb hr rfl (fun zt ht zw => ⟨_, rfl, (show nI 0 = bi (rg x 4) from (bi_f (by first | exact nrg_lt c_1 | exact nrg_ge c_6 (by omega) | exact rg_of c_1 c_6 (by omega))).symm), ht⟩) (fun q hq => absurd hq List.not_mem_nil) dX8_isTray_14
  refine lv_iconst (v := nI 1) hx hb dX8_isTray_9 (by decide) ?_
  refine lv_goto (tgt := 14) hx hb dX8_isTray_10 (by decide) ?_
  exact W.zret (v := nI 1) hx hb hr rfl (fun zt ht zw => ⟨_, rfl, (show nI 1 = bi (rg x 4) from (bi_t (by first | exact nrg_lt c_1 | exact nrg_ge c_6 (by omega) | exact rg_of c_1 c_6 (by omega))).symm), ht⟩) (fun q hq => absurd hq List.not_mem_nil) dX8_isTray_14

set_option maxHeartbeats 400000 in
set_option maxRecDepth 100000 in
theorem c_X8_isDay (l : Launch) (G : va_G) (cI cJ : ClassId) (x : Int32)  : Met l yX8_isDay wsX8_isDay ({ frames := 0, cells := 0, slots := 0, locals := 0 }) (roP G cI cJ [.int x] []) (vp_Si (fun r => r = bi (rg x 240))) 0 0 (fun _ => False) := by
  refine Met.ofW (cc := cX8_isDay) (maxL := 1) (ret := (some .boolean)) (by decide) rfl ?_
  intro pg ev s mt args below meth cd s₁ B hml hv
  obtain ⟨rfl, hP, hK⟩ := hv
  have hx := B.exec
  have hb := B.bytes
  have hr := B.returns
  have hts := atoms_spec (ws := wsX8_isDay) B.pre
  have hown : s.vm.findClass RX8 = some mt.cls := findClass_of_methodNamed B.named
  have hlocks := B.notSynchronized
  have hP : va_P G vwCl [] s.heap := hP
  have hl := lv_entry ([.int x]) (n := 1) (Nat.le_of_ble_eq_true rfl)
  rw [lg_entry_eq]
  generalize (lg_sl ([.int x]) ++ List.replicate (1 - (lg_sl ([.int x])).length) Slot.unset).toArray = ls at hl ⊢
  have hl : lv_has ls 1 [(0, .int x)] := hl
  refine lv_iload_n hx hb dX8_isDay_0 rfl (lv_at hl 0 rfl) ?_
  refine lv_if_lt (tgt := 15) hx hb dX8_isDay_1 (by decide) (fun c_1 => ?_) (fun c_1 => ?_)
  · refine lv_iconst (v := nI 0) hx hb dX8_isDay_15 (by decide) ?_
    exact W.zret (v := nI 0) hx hb hr rfl (fun zt ht zw => ⟨_, rfl, (show nI 0 = bi (rg x 240) from (bi_f (by first | exact nrg_lt c_1 | exact nrg_ge c_8 (by omega) | exact rg_of c_1 c_8 (by omega))).symm), ht⟩) (fun q hq => absurd hq List.not_mem_nil) dX8_isDay_16
  refine lv_iload_n hx hb dX8_isDay_4 rfl (lv_at hl 0 rfl) ?_
  refine lv_sipush (v := nI 240) hx hb dX8_isDay_5 (by decide) ?_
  refine lv_icmp_ge (tgt := 15) hx hb dX8_isDay_8 (by decide) (fun c_8 => ?_) (fun c_8 => ?_)
  · refine lv_iconst (v := nI 0) hx hb dX8_isDay_15 (by decide) ?_
    exact W.zret (v := nI 0) hx hb hr rfl (fun zt ht zw => ⟨_, rfl, (show nI 0 = bi (rg x 240) from (bi_f (by first | exact nrg_lt c_1 | exact nrg_ge c_8 (by omega) | exact rg_of c_1 c_8 (by omega))).symm), ht⟩) (fun q hq => absurd hq List.not_mem_nil) dX8_isDay_16
  refine lv_iconst (v := nI 1) hx hb dX8_isDay_11 (by decide) ?_
  refine lv_goto (tgt := 16) hx hb dX8_isDay_12 (by decide) ?_
  exact W.zret (v := nI 1) hx hb hr rfl (fun zt ht zw => ⟨_, rfl, (show nI 1 = bi (rg x 240) from (bi_t (by first | exact nrg_lt c_1 | exact nrg_ge c_8 (by omega) | exact rg_of c_1 c_8 (by omega))).symm), ht⟩) (fun q hq => absurd hq List.not_mem_nil) dX8_isDay_16

set_option maxHeartbeats 400000 in
set_option maxRecDepth 100000 in
theorem c_X8_isMonth (l : Launch) (G : va_G) (cI cJ : ClassId) (x : Int32)  : Met l yX8_isMonth wsX8_isMonth ({ frames := 0, cells := 0, slots := 0, locals := 0 }) (roP G cI cJ [.int x] []) (vp_Si (fun r => r = bi (rg x 24))) 0 0 (fun _ => False) := by
  refine Met.ofW (cc := cX8_isMonth) (maxL := 1) (ret := (some .boolean)) (by decide) rfl ?_
  intro pg ev s mt args below meth cd s₁ B hml hv
  obtain ⟨rfl, hP, hK⟩ := hv
  have hx := B.exec
  have hb := B.bytes
  have hr := B.returns
  have hts := atoms_spec (ws := wsX8_isMonth) B.pre
  have hown : s.vm.findClass RX8 = some mt.cls := findClass_of_methodNamed B.named
  have hlocks := B.notSynchronized
  have hP : va_P G vwCl [] s.heap := hP
  have hl := lv_entry ([.int x]) (n := 1) (Nat.le_of_ble_eq_true rfl)
  rw [lg_entry_eq]
  generalize (lg_sl ([.int x]) ++ List.replicate (1 - (lg_sl ([.int x])).length) Slot.unset).toArray = ls at hl ⊢
  have hl : lv_has ls 1 [(0, .int x)] := hl
  refine lv_iload_n hx hb dX8_isMonth_0 rfl (lv_at hl 0 rfl) ?_
  refine lv_if_lt (tgt := 14) hx hb dX8_isMonth_1 (by decide) (fun c_1 => ?_) (fun c_1 => ?_)
  · refine lv_iconst (v := nI 0) hx hb dX8_isMonth_14 (by decide) ?_
    exact W.zret (v := nI 0) hx hb hr rfl (fun zt ht zw => ⟨_, rfl, (show nI 0 = bi (rg x 24) from (bi_f (by first | exact nrg_lt c_1 | exact nrg_ge c_7 (by omega) | exact rg_of c_1 c_7 (by omega))).symm), ht⟩) (fun q hq => absurd hq List.not_mem_nil) dX8_isMonth_15
  refine lv_iload_n hx hb dX8_isMonth_4 rfl (lv_at hl 0 rfl) ?_
  refine lv_bipush (v := nI 24) hx hb dX8_isMonth_5 (by decide) ?_
  refine lv_icmp_ge (tgt := 14) hx hb dX8_isMonth_7 (by decide) (fun c_7 => ?_) (fun c_7 => ?_)
  · refine lv_iconst (v := nI 0) hx hb dX8_isMonth_14 (by decide) ?_
    exact W.zret (v := nI 0) hx hb hr rfl (fun zt ht zw => ⟨_, rfl, (show nI 0 = bi (rg x 24) from (bi_f (by first | exact nrg_lt c_1 | exact nrg_ge c_7 (by omega) | exact rg_of c_1 c_7 (by omega))).symm), ht⟩) (fun q hq => absurd hq List.not_mem_nil) dX8_isMonth_15
  refine lv_iconst (v := nI 1) hx hb dX8_isMonth_10 (by decide) ?_
  refine lv_goto (tgt := 15) hx hb dX8_isMonth_11 (by decide) ?_
  exact W.zret (v := nI 1) hx hb hr rfl (fun zt ht zw => ⟨_, rfl, (show nI 1 = bi (rg x 24) from (bi_t (by first | exact nrg_lt c_1 | exact nrg_ge c_7 (by omega) | exact rg_of c_1 c_7 (by omega))).symm), ht⟩) (fun q hq => absurd hq List.not_mem_nil) dX8_isMonth_15

set_option maxHeartbeats 400000 in
set_option maxRecDepth 100000 in
theorem c_X8_isEye (l : Launch) (G : va_G) (cI cJ : ClassId) (b : Nat → Nat) (st : Int32) (tp : Int64) (bt : Int64) (ey : Nat) (le : Int32) (en : Int32) (wo : Int32) (x : Int32) (hey : ey ≤ 8) : Met l yX8_isEye wsX8_isEye ({ frames := 0, cells := 0, slots := 0, locals := 0 }) (roP G cI cJ [.ref (b 0), .int x] [oM b st tp bt (nI ey) le en wo]) (vp_Si (fun r => r = bi (rg x ey))) 0 0 (fun _ => False) := by
  refine Met.ofW (cc := cX8_isEye) (maxL := 2) (ret := (some .boolean)) (by decide) rfl ?_
  intro pg ev s mt args below meth cd s₁ B hml hv
  obtain ⟨rfl, hP, hK⟩ := hv
  have hx := B.exec
  have hb := B.bytes
  have hr := B.returns
  have hts := atoms_spec (ws := wsX8_isEye) B.pre
  have hown : s.vm.findClass RX8 = some mt.cls := findClass_of_methodNamed B.named
  have hlocks := B.notSynchronized
  have hP : va_P G vwCl [oM b st tp bt (nI ey) le en wo] s.heap := hP
  have hinX8 := (show ∀ w ∈ u_ws RX8 TX8 23, w ∈ wsX8_isEye by decide +kernel)
  have fl96 := hts (.fieldLink RX8 96 "SpotRowsModel" "eyes" "I") (by decide +kernel)
  have hl := lv_entry ([.ref (b 0), .int x]) (n := 2) (Nat.le_of_ble_eq_true rfl)
  rw [lg_entry_eq]
  generalize (lg_sl ([.ref (b 0), .int x]) ++ List.replicate (2 - (lg_sl ([.ref (b 0), .int x])).length) Slot.unset).toArray = ls at hl ⊢
  have hl : lv_has ls 2 [(0, .ref (b 0)), (1, .int x)] := hl
  refine lv_iload_n hx hb dX8_isEye_0 rfl (lv_at hl 1 rfl) ?_
  refine lv_if_lt (tgt := 16) hx hb dX8_isEye_1 (by decide) (fun c_1 => ?_) (fun c_1 => ?_)
  · refine lv_iconst (v := nI 0) hx hb dX8_isEye_16 (by decide) ?_
    exact W.zret (v := nI 0) hx hb hr rfl (fun zt ht zw => ⟨_, rfl, (show nI 0 = bi (rg x ey) from (bi_f (by first | exact nrg_lt c_1 | exact nrg_ge c_9 (by omega) | exact rg_of c_1 c_9 (by omega))).symm), ht⟩) (fun q hq => absurd hq List.not_mem_nil) dX8_isEye_17
  refine lv_iload_n hx hb dX8_isEye_4 rfl (lv_at hl 1 rfl) ?_
  refine lv_aload_n hx hb dX8_isEye_5 rfl (lv_at hl 0 rfl) ?_
  refine va_get (D := G) (own := RX8) (ref := "SpotRowsModel") (ci := 8) (v := .int (nI ey)) (C := RX8) (T := TX8) (N := 23) hx hb hts hinX8 hown hK.1 hP 0 rfl rfl 6 (by decide) fl96 (fun _ h9 => h9) rfl dX8_isEye_6 ?_
  refine lv_icmp_ge (tgt := 16) hx hb dX8_isEye_9 (by decide) (fun c_9 => ?_) (fun c_9 => ?_)
  · refine lv_iconst (v := nI 0) hx hb dX8_isEye_16 (by decide) ?_
    exact W.zret (v := nI 0) hx hb hr rfl (fun zt ht zw => ⟨_, rfl, (show nI 0 = bi (rg x ey) from (bi_f (by first | exact nrg_lt c_1 | exact nrg_ge c_9 (by omega) | exact rg_of c_1 c_9 (by omega))).symm), ht⟩) (fun q hq => absurd hq List.not_mem_nil) dX8_isEye_17
  refine lv_iconst (v := nI 1) hx hb dX8_isEye_12 (by decide) ?_
  refine lv_goto (tgt := 17) hx hb dX8_isEye_13 (by decide) ?_
  exact W.zret (v := nI 1) hx hb hr rfl (fun zt ht zw => ⟨_, rfl, (show nI 1 = bi (rg x ey) from (bi_t (by first | exact nrg_lt c_1 | exact nrg_ge c_9 (by omega) | exact rg_of c_1 c_9 (by omega))).symm), ht⟩) (fun q hq => absurd hq List.not_mem_nil) dX8_isEye_17

set_option maxHeartbeats 400000 in
set_option maxRecDepth 100000 in
theorem c_X8_at (l : Launch) (G : va_G) (cI cJ : ClassId) (x : Nat) (d : Nat)  : Met l yX8_at wsX8_at ({ frames := 0, cells := 0, slots := 0, locals := 0 }) (roP G cI cJ [.int (nI x), .int (nI d)] []) (vp_Si (fun r => r = nI (x * 240 + d))) 0 0 (fun _ => False) := by
  refine Met.ofW (cc := cX8_at) (maxL := 2) (ret := (some .int)) (by decide) rfl ?_
  intro pg ev s mt args below meth cd s₁ B hml hv
  obtain ⟨rfl, hP, hK⟩ := hv
  have hx := B.exec
  have hb := B.bytes
  have hr := B.returns
  have hts := atoms_spec (ws := wsX8_at) B.pre
  have hown : s.vm.findClass RX8 = some mt.cls := findClass_of_methodNamed B.named
  have hlocks := B.notSynchronized
  have hP : va_P G vwCl [] s.heap := hP
  have hl := lv_entry ([.int (nI x), .int (nI d)]) (n := 2) (Nat.le_of_ble_eq_true rfl)
  rw [lg_entry_eq]
  generalize (lg_sl ([.int (nI x), .int (nI d)]) ++ List.replicate (2 - (lg_sl ([.int (nI x), .int (nI d)])).length) Slot.unset).toArray = ls at hl ⊢
  have hl : lv_has ls 2 [(0, .int (nI x)), (1, .int (nI d))] := hl
  refine lv_sipush (v := nI 240) hx hb dX8_at_0 (by decide) ?_
  refine lv_iload_n hx hb dX8_at_3 rfl (lv_at hl 0 rfl) ?_
  refine lv_imul hx hb dX8_at_4 ?_
  refine toi (pk_mul 240 x) ?_
  refine lv_iload_n hx hb dX8_at_5 rfl (lv_at hl 1 rfl) ?_
  refine lv_iadd hx hb dX8_at_6 ?_
  refine toi (nI_add (240 * x) d) ?_
  exact W.iret (v := nI (240 * x + d)) hx hb hr (fun zt ht zw => ⟨_, rfl, (congrArg nI (show (240 * x + d) = (x * 240 + d) from by omega)), ht⟩) (fun q hq => absurd hq List.not_mem_nil) dX8_at_7

set_option maxHeartbeats 400000 in
set_option maxRecDepth 100000 in
theorem c_X8_cut (l : Launch) (G : va_G) (cI cJ : ClassId) (v : Int64) (k : Nat) (h1 : k ≤ 3) : Met l yX8_cut wsX8_cut ({ frames := 0, cells := 0, slots := 0, locals := 0 }) (roP G cI cJ [.long v, .int (nI k)] []) (vp_Sl (fun r => r = cutF k v)) 0 0 (fun _ => False) := by
  refine Met.ofW (cc := cX8_cut) (maxL := 3) (ret := (some .long)) (by decide) rfl ?_
  intro pg ev s mt args below meth cd s₁ B hml hv
  obtain ⟨rfl, hP, hK⟩ := hv
  have hx := B.exec
  have hb := B.bytes
  have hr := B.returns
  have hts := atoms_spec (ws := wsX8_cut) B.pre
  have hown : s.vm.findClass RX8 = some mt.cls := findClass_of_methodNamed B.named
  have hlocks := B.notSynchronized
  have hP : va_P G vwCl [] s.heap := hP
  have hl := lv_entry ([.long v, .int (nI k)]) (n := 3) (Nat.le_of_ble_eq_true rfl)
  rw [lg_entry_eq]
  generalize (lg_sl ([.long v, .int (nI k)]) ++ List.replicate (3 - (lg_sl ([.long v, .int (nI k)])).length) Slot.unset).toArray = ls at hl ⊢
  have hl : lv_has ls 3 [(0, .long v), (2, .int (nI k))] := hl
  refine lv_iload_n hx hb dX8_cut_0 rfl (lv_at hl 1 rfl) ?_
  refine nv_if_ne (tgt := 11) hx hb dX8_cut_1 (by decide) (by omega) (fun c_1 => ?_) (fun c_1 => ?_)
  · refine lv_iload_n hx hb dX8_cut_11 rfl (lv_at hl 1 rfl) ?_
    refine lv_iconst (v := nI 1) hx hb dX8_cut_12 (by decide) ?_
    refine nv_icmp_ne (tgt := 23) hx hb dX8_cut_13 (by decide) (by omega) (by omega) (fun c_13 => ?_) (fun c_13 => ?_)
    · refine lv_iload_n hx hb dX8_cut_23 rfl (lv_at hl 1 rfl) ?_
      refine lv_iconst (v := nI 2) hx hb dX8_cut_24 (by decide) ?_
      refine nv_icmp_ne (tgt := 34) hx hb dX8_cut_25 (by decide) (by omega) (by omega) (fun c_25 => ?_) (fun c_25 => ?_)
      · refine lv_lload_n hx hb dX8_cut_34 rfl (lv_at hl 0 rfl) ?_
        exact W.lret (v := v) hx hb hr (fun zt ht zw => ⟨_, rfl, (show v = cutF k v from by simp only [cutF]; (repeat' split) <;> first | rfl | omega), ht⟩) (fun q hq => absurd hq List.not_mem_nil) dX8_cut_35
      refine lv_lload_n hx hb dX8_cut_28 rfl (lv_at hl 0 rfl) ?_
      refine lv_l2i (v := v.toInt32) hx hb dX8_cut_29 rfl ?_
      refine lv_i2l (v := v.toInt32.toInt64) hx hb dX8_cut_30 rfl ?_
      refine lv_goto (tgt := 35) hx hb dX8_cut_31 (by decide) ?_
      exact W.lret (v := v.toInt32.toInt64) hx hb hr (fun zt ht zw => ⟨_, rfl, (show v.toInt32.toInt64 = cutF k v from by simp only [cutF]; (repeat' split) <;> first | rfl | omega), ht⟩) (fun q hq => absurd hq List.not_mem_nil) dX8_cut_35
    refine lv_lload_n hx hb dX8_cut_16 rfl (lv_at hl 0 rfl) ?_
    refine lv_l2i (v := v.toInt32) hx hb dX8_cut_17 rfl ?_
    refine lv_i2s (v := v.toInt32.toInt16.toInt32) hx hb dX8_cut_18 rfl ?_
    refine lv_i2l (v := v.toInt32.toInt16.toInt32.toInt64) hx hb dX8_cut_19 rfl ?_
    refine lv_goto (tgt := 35) hx hb dX8_cut_20 (by decide) ?_
    exact W.lret (v := v.toInt32.toInt16.toInt32.toInt64) hx hb hr (fun zt ht zw => ⟨_, rfl, (show v.toInt32.toInt16.toInt32.toInt64 = cutF k v from by simp only [cutF]; (repeat' split) <;> first | rfl | omega), ht⟩) (fun q hq => absurd hq List.not_mem_nil) dX8_cut_35
  refine lv_lload_n hx hb dX8_cut_4 rfl (lv_at hl 0 rfl) ?_
  refine lv_l2i (v := v.toInt32) hx hb dX8_cut_5 rfl ?_
  refine lv_i2b (v := v.toInt32.toInt8.toInt32) hx hb dX8_cut_6 rfl ?_
  refine lv_i2l (v := v.toInt32.toInt8.toInt32.toInt64) hx hb dX8_cut_7 rfl ?_
  refine lv_goto (tgt := 35) hx hb dX8_cut_8 (by decide) ?_
  exact W.lret (v := v.toInt32.toInt8.toInt32.toInt64) hx hb hr (fun zt ht zw => ⟨_, rfl, (show v.toInt32.toInt8.toInt32.toInt64 = cutF k v from by simp only [cutF]; (repeat' split) <;> first | rfl | omega), ht⟩) (fun q hq => absurd hq List.not_mem_nil) dX8_cut_35

set_option maxHeartbeats 400000 in
set_option maxRecDepth 100000 in
theorem c_X8_status (l : Launch) (G : va_G) (cI cJ : ClassId) (b : Nat → Nat) (st : Int32) (tp : Int64) (bt : Int64) (ey : Nat) (le : Int32) (en : Int32) (wo : Int32)  : Met l yX8_status wsX8_status ({ frames := 0, cells := 0, slots := 0, locals := 0 }) (roP G cI cJ [.ref (b 0)] [oM b st tp bt (nI ey) le en wo]) (vp_Si (fun r => r = st)) 0 0 (fun _ => False) := by
  refine Met.ofW (cc := cX8_status) (maxL := 1) (ret := (some .int)) (by decide) rfl ?_
  intro pg ev s mt args below meth cd s₁ B hml hv
  obtain ⟨rfl, hP, hK⟩ := hv
  have hx := B.exec
  have hb := B.bytes
  have hr := B.returns
  have hts := atoms_spec (ws := wsX8_status) B.pre
  have hown : s.vm.findClass RX8 = some mt.cls := findClass_of_methodNamed B.named
  have hlocks := B.notSynchronized
  have hP : va_P G vwCl [oM b st tp bt (nI ey) le en wo] s.heap := hP
  have hinX8 := (show ∀ w ∈ u_ws RX8 TX8 23, w ∈ wsX8_status by decide +kernel)
  have fl73 := hts (.fieldLink RX8 73 "SpotRowsModel" "status" "I") (by decide +kernel)
  have hl := lv_entry ([.ref (b 0)]) (n := 1) (Nat.le_of_ble_eq_true rfl)
  rw [lg_entry_eq]
  generalize (lg_sl ([.ref (b 0)]) ++ List.replicate (1 - (lg_sl ([.ref (b 0)])).length) Slot.unset).toArray = ls at hl ⊢
  have hl : lv_has ls 1 [(0, .ref (b 0))] := hl
  refine lv_aload_n hx hb dX8_status_0 rfl (lv_at hl 0 rfl) ?_
  refine va_get (D := G) (own := RX8) (ref := "SpotRowsModel") (ci := 8) (v := .int st) (C := RX8) (T := TX8) (N := 23) hx hb hts hinX8 hown hK.1 hP 0 rfl rfl 0 (by decide) fl73 (fun _ h9 => h9) rfl dX8_status_1 ?_
  exact W.iret (v := st) hx hb hr (fun zt ht zw => ⟨_, rfl, rfl, ht⟩) (fun q hq => absurd hq List.not_mem_nil) dX8_status_4

set_option maxHeartbeats 400000 in
set_option maxRecDepth 100000 in
theorem c_X8_top (l : Launch) (G : va_G) (cI cJ : ClassId) (b : Nat → Nat) (st : Int32) (tp : Int64) (bt : Int64) (ey : Nat) (le : Int32) (en : Int32) (wo : Int32)  : Met l yX8_top wsX8_top ({ frames := 0, cells := 0, slots := 0, locals := 0 }) (roP G cI cJ [.ref (b 0)] [oM b st tp bt (nI ey) le en wo]) (vp_Sl (fun r => r = tp)) 0 0 (fun _ => False) := by
  refine Met.ofW (cc := cX8_top) (maxL := 1) (ret := (some .long)) (by decide) rfl ?_
  intro pg ev s mt args below meth cd s₁ B hml hv
  obtain ⟨rfl, hP, hK⟩ := hv
  have hx := B.exec
  have hb := B.bytes
  have hr := B.returns
  have hts := atoms_spec (ws := wsX8_top) B.pre
  have hown : s.vm.findClass RX8 = some mt.cls := findClass_of_methodNamed B.named
  have hlocks := B.notSynchronized
  have hP : va_P G vwCl [oM b st tp bt (nI ey) le en wo] s.heap := hP
  have hinX8 := (show ∀ w ∈ u_ws RX8 TX8 23, w ∈ wsX8_top by decide +kernel)
  have fl76 := hts (.fieldLink RX8 76 "SpotRowsModel" "top" "J") (by decide +kernel)
  have hl := lv_entry ([.ref (b 0)]) (n := 1) (Nat.le_of_ble_eq_true rfl)
  rw [lg_entry_eq]
  generalize (lg_sl ([.ref (b 0)]) ++ List.replicate (1 - (lg_sl ([.ref (b 0)])).length) Slot.unset).toArray = ls at hl ⊢
  have hl : lv_has ls 1 [(0, .ref (b 0))] := hl
  refine lv_aload_n hx hb dX8_top_0 rfl (lv_at hl 0 rfl) ?_
  refine va_get (D := G) (own := RX8) (ref := "SpotRowsModel") (ci := 8) (v := .long tp) (C := RX8) (T := TX8) (N := 23) hx hb hts hinX8 hown hK.1 hP 0 rfl rfl 1 (by decide) fl76 (fun _ h9 => h9) rfl dX8_top_1 ?_
  exact W.lret (v := tp) hx hb hr (fun zt ht zw => ⟨_, rfl, rfl, ht⟩) (fun q hq => absurd hq List.not_mem_nil) dX8_top_4

set_option maxHeartbeats 400000 in
set_option maxRecDepth 100000 in
theorem c_X8_bottom (l : Launch) (G : va_G) (cI cJ : ClassId) (b : Nat → Nat) (st : Int32) (tp : Int64) (bt : Int64) (ey : Nat) (le : Int32) (en : Int32) (wo : Int32)  : Met l yX8_bottom wsX8_bottom ({ frames := 0, cells := 0, slots := 0, locals := 0 }) (roP G cI cJ [.ref (b 0)] [oM b st tp bt (nI ey) le en wo]) (vp_Sl (fun r => r = bt)) 0 0 (fun _ => False) := by
  refine Met.ofW (cc := cX8_bottom) (maxL := 1) (ret := (some .long)) (by decide) rfl ?_
  intro pg ev s mt args below meth cd s₁ B hml hv
  obtain ⟨rfl, hP, hK⟩ := hv
  have hx := B.exec
  have hb := B.bytes
  have hr := B.returns
  have hts := atoms_spec (ws := wsX8_bottom) B.pre
  have hown : s.vm.findClass RX8 = some mt.cls := findClass_of_methodNamed B.named
  have hlocks := B.notSynchronized
  have hP : va_P G vwCl [oM b st tp bt (nI ey) le en wo] s.heap := hP
  have hinX8 := (show ∀ w ∈ u_ws RX8 TX8 23, w ∈ wsX8_bottom by decide +kernel)
  have fl7 := hts (.fieldLink RX8 7 "SpotRowsModel" "bottom" "J") (by decide +kernel)
  have hl := lv_entry ([.ref (b 0)]) (n := 1) (Nat.le_of_ble_eq_true rfl)
  rw [lg_entry_eq]
  generalize (lg_sl ([.ref (b 0)]) ++ List.replicate (1 - (lg_sl ([.ref (b 0)])).length) Slot.unset).toArray = ls at hl ⊢
  have hl : lv_has ls 1 [(0, .ref (b 0))] := hl
  refine lv_aload_n hx hb dX8_bottom_0 rfl (lv_at hl 0 rfl) ?_
  refine va_get (D := G) (own := RX8) (ref := "SpotRowsModel") (ci := 8) (v := .long bt) (C := RX8) (T := TX8) (N := 23) hx hb hts hinX8 hown hK.1 hP 0 rfl rfl 2 (by decide) fl7 (fun _ h9 => h9) rfl dX8_bottom_1 ?_
  exact W.lret (v := bt) hx hb hr (fun zt ht zw => ⟨_, rfl, rfl, ht⟩) (fun q hq => absurd hq List.not_mem_nil) dX8_bottom_4

set_option maxHeartbeats 400000 in
set_option maxRecDepth 100000 in
theorem c_X8_tray (l : Launch) (G : va_G) (cI cJ : ClassId) (b : Nat → Nat) (st : Int32) (tp : Int64) (bt : Int64) (ey : Nat) (le : Int32) (en : Int32) (wo : Int32) (so : Nat → Nat) (sz : Nat → Nat) (z : Nat → Int64) (ms : Nat → Nat) (mm : Nat → Nat) (mz : Nat → Int64) (tr : Int32) (k : Int32) (mn : Int32) (ts : TS so sz) (hM : MT so sz z ms mm mz) : Met l yX8_tray wsX8_tray ({ frames := 1, cells := 0, slots := 0, locals := 21 }) (rwP G cI cJ [.ref (b 0), .int tr, .int k, .int mn] [oM b st tp bt (nI ey) le en wo, aI cI (b 1) 4 (nF ms), aI cI (b 2) 4 (oF mm), aJ cJ (b 3) 240 mz]) (rwQi G [oM b st tp bt (nI ey) le en wo, aI cI (b 1) 4 (nF ms), aI cI (b 2) 4 (oF mm), aJ cJ (b 3) 240 mz] (fun (r : Int32) (u : (Nat → Nat) × (Nat → Nat) × (Nat → Int64)) => match u with | (ms2, mm2, mz2) => r = bi (qTray tr k mn = 0) ∧ MT (soTray so tr k mn) (szTray sz tr k mn) (zTray z tr k mn) ms2 mm2 mz2) (fun (u : (Nat → Nat) × (Nat → Nat) × (Nat → Int64)) => match u with | (ms2, mm2, mz2) => [oM b (nI (qTray tr k mn)) tp bt (nI ey) le en wo, aI cI (b 1) 4 (nF ms2), aI cI (b 2) 4 (oF mm2), aJ cJ (b 3) 240 mz2])) 0 0 (ads [oM b st tp bt (nI ey) le en wo, aI cI (b 1) 4 (nF ms), aI cI (b 2) 4 (oF mm), aJ cJ (b 3) 240 mz]) := by
  refine Met.ofW (cc := cX8_tray) (maxL := 5) (ret := (some .boolean)) (by decide) rfl ?_
  intro pg ev s mt args below meth cd s₁ B hml hv
  obtain ⟨rfl, hP, hD0, hK⟩ := hv
  have hx := B.exec
  have hb := B.bytes
  have hr := B.returns
  have hts := atoms_spec (ws := wsX8_tray) B.pre
  have hown : s.vm.findClass RX8 = some mt.cls := findClass_of_methodNamed B.named
  have hlocks := B.notSynchronized
  have hD := ads_self hD0
  generalize hAe : ads [oM b st tp bt (nI ey) le en wo, aI cI (b 1) 4 (nF ms), aI cI (b 2) 4 (oF mm), aJ cJ (b 3) 240 mz] = A at hD ⊢
  have hS : va_S A s.heap s.heap [] := va_S.rf
  have hP : va_P G vwCl [oM b st tp bt (nI ey) le en wo, aI cI (b 1) 4 (nF ms), aI cI (b 2) 4 (oF mm), aJ cJ (b 3) 240 mz] s.heap := hP
  have hinX8 := (show ∀ w ∈ u_ws RX8 TX8 23, w ∈ wsX8_tray by decide +kernel)
  have fl13 := hts (.fieldLink RX8 13 "SpotRowsModel" "sort" "[I") (by decide +kernel)
  have fl17 := hts (.fieldLink RX8 17 "SpotRowsModel" "many" "[I") (by decide +kernel)
  have fl20 := hts (.fieldLink RX8 20 "SpotRowsModel" "trays" "[J") (by decide +kernel)
  have hl := lv_entry ([.ref (b 0), .int tr, .int k, .int mn]) (n := 5) (Nat.le_of_ble_eq_true rfl)
  rw [lg_entry_eq]
  generalize (lg_sl ([.ref (b 0), .int tr, .int k, .int mn]) ++ List.replicate (5 - (lg_sl ([.ref (b 0), .int tr, .int k, .int mn])).length) Slot.unset).toArray = ls at hl ⊢
  have hl : lv_has ls 5 [(0, .ref (b 0)), (1, .int tr), (2, .int k), (3, .int mn)] := hl
  refine lv_iload_n hx hb dX8_tray_0 rfl (lv_at hl 1 rfl) ?_
  refine cro_i (va_runS (As := [.int tr]) (rest := []) ⟨hx, hb, hml, hown, hts⟩ (c_X8_isTray l G cI cJ (x := tr) ) (va_cwS 1 hts gX8_tray_X8_isTray rfl rfl rfl (by decide +kernel) ⟨Nat.le_of_ble_eq_true rfl, Nat.le_of_ble_eq_true rfl⟩) (preS_ro (wc := []) hK hP [] rfl) rfl rfl hl.1 rfl (lv_room (Nat.le_of_ble_eq_true rfl)) dX8_tray_1 ⟨Nat.zero_le _, Nat.zero_le _⟩) ?_
  refine nb_if_eq (tgt := 26) hx hb dX8_tray_4 (by decide) (fun c_4 => ?_) (fun c_4 => ?_)
  · refine lv_aload_n hx hb dX8_tray_26 rfl (lv_at hl 0 rfl) ?_
    refine lv_iconst (v := nI 1) hx hb dX8_tray_27 (by decide) ?_
    refine crw_i (va_runV (As := [.int (nI 1)]) (rest := []) ⟨hx, hb, hml, hown, hts⟩ (c_X8_is l G cI cJ (b := b) (st := st) (tp := tp) (bt := bt) (ey := ey) (le := le) (en := en) (wo := wo) (w := 1) (hw := by first | assumption | omega)) (cwV 1 hts gX8_tray_X8_is rfl rfl rfl (by decide +kernel) ⟨Nat.le_of_ble_eq_true rfl, Nat.le_of_ble_eq_true rfl⟩) (preV_rw (wc := [oM b st tp bt (nI ey) le en wo]) hK hP hD [0] rfl rfl 8 0 rfl rfl rfl) rfl rfl hl.1 rfl (lv_room (Nat.le_of_ble_eq_true rfl)) dX8_tray_28 ⟨Nat.zero_le _, Nat.zero_le _⟩) hP hD hS [0] rfl [b 0] (fun u => rfl) rfl (fun r_28 u_ H locs hw_28 hP hD hS => ?_)
    have hP : va_P G vwCl [oM b (nI 1) tp bt (nI ey) le en wo, aI cI (b 1) 4 (nF ms), aI cI (b 2) 4 (oF mm), aJ cJ (b 3) 240 mz] H := hP
    have hD : va_D A [oM b (nI 1) tp bt (nI ey) le en wo, aI cI (b 1) 4 (nF ms), aI cI (b 2) 4 (oF mm), aJ cJ (b 3) 240 mz] := hD
    refine toi hw_28 ?_
    have hP : va_P G vwCl [oM b (nI (qTray tr k mn)) tp bt (nI ey) le en wo, aI cI (b 1) 4 (nF ms), aI cI (b 2) 4 (oF mm), aJ cJ (b 3) 240 mz] H := by
      have ew : ([oM b (nI 1) tp bt (nI ey) le en wo, aI cI (b 1) 4 (nF ms), aI cI (b 2) 4 (oF mm), aJ cJ (b 3) 240 mz] : va_W) = [oM b (nI (qTray tr k mn)) tp bt (nI ey) le en wo, aI cI (b 1) 4 (nF ms), aI cI (b 2) 4 (oF mm), aJ cJ (b 3) 240 mz] := (wvC (congrArg (fun zz => oM b zz tp bt (nI ey) le en wo) (show nI 1 = nI (qTray tr k mn) from (congrArg nI (show 1 = (qTray tr k mn) from by first | (have k9 : ¬ okTray tr k mn := (fun h => c_4 h.1); simp [qTray, cif_neg k9]; done) | (have k9 : ¬ okTray (nI j_tr) k mn := (fun h => nrg_lt c_8 h.2.1); simp [qTray, cif_neg k9]; done) | (have k9 : ¬ okTray (nI j_tr) k mn := (fun h => ngt_rg c_13 h.2.1); simp [qTray, cif_neg k9]; done) | (have k9 : ¬ okTray (nI j_tr) k mn := (fun h => nrg_lt c_17 h.2.2); simp [qTray, cif_neg k9]; done) | (have k9 : ¬ okTray (nI j_tr) k mn := (fun h => ngt_rg (Int32.not_le.mp c_23) h.2.2); simp [qTray, cif_neg k9]; done))))) (wvC rfl (wvC rfl (wvC rfl rfl))))
      rw [← ew]; exact hP
    exact W.zret (v := bi (1 = 0)) hx hb hr bi_nar (fun zt ht zw => ⟨⟨_, (ms, mm, mz), rfl, ⟨(bi_cong (show 1 = 0 ↔ qTray tr k mn = 0 from by first | (have k9 : ¬ okTray tr k mn := (fun h => c_4 h.1); simp [qTray, cif_neg k9]; done) | (have k9 : ¬ okTray (nI j_tr) k mn := (fun h => nrg_lt c_8 h.2.1); simp [qTray, cif_neg k9]; done) | (have k9 : ¬ okTray (nI j_tr) k mn := (fun h => ngt_rg c_13 h.2.1); simp [qTray, cif_neg k9]; done) | (have k9 : ¬ okTray (nI j_tr) k mn := (fun h => nrg_lt c_17 h.2.2); simp [qTray, cif_neg k9]; done) | (have k9 : ¬ okTray (nI j_tr) k mn := (fun h => ngt_rg (Int32.not_le.mp c_23) h.2.2); simp [qTray, cif_neg k9]; done))), (by first | (have k9 : ¬ okTray tr k mn := (fun h => c_4 h.1); simp only [soTray, szTray, zTray, cif_neg k9]; exact hM) | (have k9 : ¬ okTray (nI j_tr) k mn := (fun h => nrg_lt c_8 h.2.1); simp only [soTray, szTray, zTray, cif_neg k9]; exact hM) | (have k9 : ¬ okTray (nI j_tr) k mn := (fun h => ngt_rg c_13 h.2.1); simp only [soTray, szTray, zTray, cif_neg k9]; exact hM) | (have k9 : ¬ okTray (nI j_tr) k mn := (fun h => nrg_lt c_17 h.2.2); simp only [soTray, szTray, zTray, cif_neg k9]; exact hM) | (have k9 : ¬ okTray (nI j_tr) k mn := (fun h => ngt_rg (Int32.not_le.mp c_23) h.2.2); simp only [soTray, szTray, zTray, cif_neg k9]; exact hM))⟩, by show va_P _ _ _ zt.heap; rw [ht]; exact hP⟩, by rw [hAe]; exact hS.F ht⟩) hS.2.2 dX8_tray_31
  obtain ⟨j_tr, h_tr, rfl⟩ := rg_ex c_4
  have e_tr := nn_nI (j := j_tr) (by omega)
  refine lv_iload_n hx hb dX8_tray_7 rfl (lv_at hl 2 rfl) ?_
  refine lv_if_lt (tgt := 26) hx hb dX8_tray_8 (by decide) (fun c_8 => ?_) (fun c_8 => ?_)
  · refine lv_aload_n hx hb dX8_tray_26 rfl (lv_at hl 0 rfl) ?_
    refine lv_iconst (v := nI 1) hx hb dX8_tray_27 (by decide) ?_
    refine crw_i (va_runV (As := [.int (nI 1)]) (rest := []) ⟨hx, hb, hml, hown, hts⟩ (c_X8_is l G cI cJ (b := b) (st := st) (tp := tp) (bt := bt) (ey := ey) (le := le) (en := en) (wo := wo) (w := 1) (hw := by first | assumption | omega)) (cwV 1 hts gX8_tray_X8_is rfl rfl rfl (by decide +kernel) ⟨Nat.le_of_ble_eq_true rfl, Nat.le_of_ble_eq_true rfl⟩) (preV_rw (wc := [oM b st tp bt (nI ey) le en wo]) hK hP hD [0] rfl rfl 8 0 rfl rfl rfl) rfl rfl hl.1 rfl (lv_room (Nat.le_of_ble_eq_true rfl)) dX8_tray_28 ⟨Nat.zero_le _, Nat.zero_le _⟩) hP hD hS [0] rfl [b 0] (fun u => rfl) rfl (fun r_28 u_ H locs hw_28 hP hD hS => ?_)
    have hP : va_P G vwCl [oM b (nI 1) tp bt (nI ey) le en wo, aI cI (b 1) 4 (nF ms), aI cI (b 2) 4 (oF mm), aJ cJ (b 3) 240 mz] H := hP
    have hD : va_D A [oM b (nI 1) tp bt (nI ey) le en wo, aI cI (b 1) 4 (nF ms), aI cI (b 2) 4 (oF mm), aJ cJ (b 3) 240 mz] := hD
    refine toi hw_28 ?_
    have hP : va_P G vwCl [oM b (nI (qTray (nI j_tr) k mn)) tp bt (nI ey) le en wo, aI cI (b 1) 4 (nF ms), aI cI (b 2) 4 (oF mm), aJ cJ (b 3) 240 mz] H := by
      have ew : ([oM b (nI 1) tp bt (nI ey) le en wo, aI cI (b 1) 4 (nF ms), aI cI (b 2) 4 (oF mm), aJ cJ (b 3) 240 mz] : va_W) = [oM b (nI (qTray (nI j_tr) k mn)) tp bt (nI ey) le en wo, aI cI (b 1) 4 (nF ms), aI cI (b 2) 4 (oF mm), aJ cJ (b 3) 240 mz] := (wvC (congrArg (fun zz => oM b zz tp bt (nI ey) le en wo) (show nI 1 = nI (qTray (nI j_tr) k mn) from (congrArg nI (show 1 = (qTray (nI j_tr) k mn) from by first | (have k9 : ¬ okTray tr k mn := (fun h => c_4 h.1); simp [qTray, cif_neg k9]; done) | (have k9 : ¬ okTray (nI j_tr) k mn := (fun h => nrg_lt c_8 h.2.1); simp [qTray, cif_neg k9]; done) | (have k9 : ¬ okTray (nI j_tr) k mn := (fun h => ngt_rg c_13 h.2.1); simp [qTray, cif_neg k9]; done) | (have k9 : ¬ okTray (nI j_tr) k mn := (fun h => nrg_lt c_17 h.2.2); simp [qTray, cif_neg k9]; done) | (have k9 : ¬ okTray (nI j_tr) k mn := (fun h => ngt_rg (Int32.not_le.mp c_23) h.2.2); simp [qTray, cif_neg k9]; done))))) (wvC rfl (wvC rfl (wvC rfl rfl))))
      rw [← ew]; exact hP
    exact W.zret (v := bi (1 = 0)) hx hb hr bi_nar (fun zt ht zw => ⟨⟨_, (ms, mm, mz), rfl, ⟨(bi_cong (show 1 = 0 ↔ qTray (nI j_tr) k mn = 0 from by first | (have k9 : ¬ okTray tr k mn := (fun h => c_4 h.1); simp [qTray, cif_neg k9]; done) | (have k9 : ¬ okTray (nI j_tr) k mn := (fun h => nrg_lt c_8 h.2.1); simp [qTray, cif_neg k9]; done) | (have k9 : ¬ okTray (nI j_tr) k mn := (fun h => ngt_rg c_13 h.2.1); simp [qTray, cif_neg k9]; done) | (have k9 : ¬ okTray (nI j_tr) k mn := (fun h => nrg_lt c_17 h.2.2); simp [qTray, cif_neg k9]; done) | (have k9 : ¬ okTray (nI j_tr) k mn := (fun h => ngt_rg (Int32.not_le.mp c_23) h.2.2); simp [qTray, cif_neg k9]; done))), (by first | (have k9 : ¬ okTray tr k mn := (fun h => c_4 h.1); simp only [soTray, szTray, zTray, cif_neg k9]; exact hM) | (have k9 : ¬ okTray (nI j_tr) k mn := (fun h => nrg_lt c_8 h.2.1); simp only [soTray, szTray, zTray, cif_neg k9]; exact hM) | (have k9 : ¬ okTray (nI j_tr) k mn := (fun h => ngt_rg c_13 h.2.1); simp only [soTray, szTray, zTray, cif_neg k9]; exact hM) | (have k9 : ¬ okTray (nI j_tr) k mn := (fun h => nrg_lt c_17 h.2.2); simp only [soTray, szTray, zTray, cif_neg k9]; exact hM) | (have k9 : ¬ okTray (nI j_tr) k mn := (fun h => ngt_rg (Int32.not_le.mp c_23) h.2.2); simp only [soTray, szTray, zTray, cif_neg k9]; exact hM))⟩, by show va_P _ _ _ zt.heap; rw [ht]; exact hP⟩, by rw [hAe]; exact hS.F ht⟩) hS.2.2 dX8_tray_31
  refine lv_iload_n hx hb dX8_tray_11 rfl (lv_at hl 2 rfl) ?_
  refine lv_iconst (v := nI 3) hx hb dX8_tray_12 (by decide) ?_
  refine lv_icmp_gt (tgt := 26) hx hb dX8_tray_13 (by decide) (fun c_13 => ?_) (fun c_13 => ?_)
  · refine lv_aload_n hx hb dX8_tray_26 rfl (lv_at hl 0 rfl) ?_
    refine lv_iconst (v := nI 1) hx hb dX8_tray_27 (by decide) ?_
    refine crw_i (va_runV (As := [.int (nI 1)]) (rest := []) ⟨hx, hb, hml, hown, hts⟩ (c_X8_is l G cI cJ (b := b) (st := st) (tp := tp) (bt := bt) (ey := ey) (le := le) (en := en) (wo := wo) (w := 1) (hw := by first | assumption | omega)) (cwV 1 hts gX8_tray_X8_is rfl rfl rfl (by decide +kernel) ⟨Nat.le_of_ble_eq_true rfl, Nat.le_of_ble_eq_true rfl⟩) (preV_rw (wc := [oM b st tp bt (nI ey) le en wo]) hK hP hD [0] rfl rfl 8 0 rfl rfl rfl) rfl rfl hl.1 rfl (lv_room (Nat.le_of_ble_eq_true rfl)) dX8_tray_28 ⟨Nat.zero_le _, Nat.zero_le _⟩) hP hD hS [0] rfl [b 0] (fun u => rfl) rfl (fun r_28 u_ H locs hw_28 hP hD hS => ?_)
    have hP : va_P G vwCl [oM b (nI 1) tp bt (nI ey) le en wo, aI cI (b 1) 4 (nF ms), aI cI (b 2) 4 (oF mm), aJ cJ (b 3) 240 mz] H := hP
    have hD : va_D A [oM b (nI 1) tp bt (nI ey) le en wo, aI cI (b 1) 4 (nF ms), aI cI (b 2) 4 (oF mm), aJ cJ (b 3) 240 mz] := hD
    refine toi hw_28 ?_
    have hP : va_P G vwCl [oM b (nI (qTray (nI j_tr) k mn)) tp bt (nI ey) le en wo, aI cI (b 1) 4 (nF ms), aI cI (b 2) 4 (oF mm), aJ cJ (b 3) 240 mz] H := by
      have ew : ([oM b (nI 1) tp bt (nI ey) le en wo, aI cI (b 1) 4 (nF ms), aI cI (b 2) 4 (oF mm), aJ cJ (b 3) 240 mz] : va_W) = [oM b (nI (qTray (nI j_tr) k mn)) tp bt (nI ey) le en wo, aI cI (b 1) 4 (nF ms), aI cI (b 2) 4 (oF mm), aJ cJ (b 3) 240 mz] := (wvC (congrArg (fun zz => oM b zz tp bt (nI ey) le en wo) (show nI 1 = nI (qTray (nI j_tr) k mn) from (congrArg nI (show 1 = (qTray (nI j_tr) k mn) from by first | (have k9 : ¬ okTray tr k mn := (fun h => c_4 h.1); simp [qTray, cif_neg k9]; done) | (have k9 : ¬ okTray (nI j_tr) k mn := (fun h => nrg_lt c_8 h.2.1); simp [qTray, cif_neg k9]; done) | (have k9 : ¬ okTray (nI j_tr) k mn := (fun h => ngt_rg c_13 h.2.1); simp [qTray, cif_neg k9]; done) | (have k9 : ¬ okTray (nI j_tr) k mn := (fun h => nrg_lt c_17 h.2.2); simp [qTray, cif_neg k9]; done) | (have k9 : ¬ okTray (nI j_tr) k mn := (fun h => ngt_rg (Int32.not_le.mp c_23) h.2.2); simp [qTray, cif_neg k9]; done))))) (wvC rfl (wvC rfl (wvC rfl rfl))))
      rw [← ew]; exact hP
    exact W.zret (v := bi (1 = 0)) hx hb hr bi_nar (fun zt ht zw => ⟨⟨_, (ms, mm, mz), rfl, ⟨(bi_cong (show 1 = 0 ↔ qTray (nI j_tr) k mn = 0 from by first | (have k9 : ¬ okTray tr k mn := (fun h => c_4 h.1); simp [qTray, cif_neg k9]; done) | (have k9 : ¬ okTray (nI j_tr) k mn := (fun h => nrg_lt c_8 h.2.1); simp [qTray, cif_neg k9]; done) | (have k9 : ¬ okTray (nI j_tr) k mn := (fun h => ngt_rg c_13 h.2.1); simp [qTray, cif_neg k9]; done) | (have k9 : ¬ okTray (nI j_tr) k mn := (fun h => nrg_lt c_17 h.2.2); simp [qTray, cif_neg k9]; done) | (have k9 : ¬ okTray (nI j_tr) k mn := (fun h => ngt_rg (Int32.not_le.mp c_23) h.2.2); simp [qTray, cif_neg k9]; done))), (by first | (have k9 : ¬ okTray tr k mn := (fun h => c_4 h.1); simp only [soTray, szTray, zTray, cif_neg k9]; exact hM) | (have k9 : ¬ okTray (nI j_tr) k mn := (fun h => nrg_lt c_8 h.2.1); simp only [soTray, szTray, zTray, cif_neg k9]; exact hM) | (have k9 : ¬ okTray (nI j_tr) k mn := (fun h => ngt_rg c_13 h.2.1); simp only [soTray, szTray, zTray, cif_neg k9]; exact hM) | (have k9 : ¬ okTray (nI j_tr) k mn := (fun h => nrg_lt c_17 h.2.2); simp only [soTray, szTray, zTray, cif_neg k9]; exact hM) | (have k9 : ¬ okTray (nI j_tr) k mn := (fun h => ngt_rg (Int32.not_le.mp c_23) h.2.2); simp only [soTray, szTray, zTray, cif_neg k9]; exact hM))⟩, by show va_P _ _ _ zt.heap; rw [ht]; exact hP⟩, by rw [hAe]; exact hS.F ht⟩) hS.2.2 dX8_tray_31
  refine lv_iload_n hx hb dX8_tray_16 rfl (lv_at hl 3 rfl) ?_
  refine lv_if_lt (tgt := 26) hx hb dX8_tray_17 (by decide) (fun c_17 => ?_) (fun c_17 => ?_)
  · refine lv_aload_n hx hb dX8_tray_26 rfl (lv_at hl 0 rfl) ?_
    refine lv_iconst (v := nI 1) hx hb dX8_tray_27 (by decide) ?_
    refine crw_i (va_runV (As := [.int (nI 1)]) (rest := []) ⟨hx, hb, hml, hown, hts⟩ (c_X8_is l G cI cJ (b := b) (st := st) (tp := tp) (bt := bt) (ey := ey) (le := le) (en := en) (wo := wo) (w := 1) (hw := by first | assumption | omega)) (cwV 1 hts gX8_tray_X8_is rfl rfl rfl (by decide +kernel) ⟨Nat.le_of_ble_eq_true rfl, Nat.le_of_ble_eq_true rfl⟩) (preV_rw (wc := [oM b st tp bt (nI ey) le en wo]) hK hP hD [0] rfl rfl 8 0 rfl rfl rfl) rfl rfl hl.1 rfl (lv_room (Nat.le_of_ble_eq_true rfl)) dX8_tray_28 ⟨Nat.zero_le _, Nat.zero_le _⟩) hP hD hS [0] rfl [b 0] (fun u => rfl) rfl (fun r_28 u_ H locs hw_28 hP hD hS => ?_)
    have hP : va_P G vwCl [oM b (nI 1) tp bt (nI ey) le en wo, aI cI (b 1) 4 (nF ms), aI cI (b 2) 4 (oF mm), aJ cJ (b 3) 240 mz] H := hP
    have hD : va_D A [oM b (nI 1) tp bt (nI ey) le en wo, aI cI (b 1) 4 (nF ms), aI cI (b 2) 4 (oF mm), aJ cJ (b 3) 240 mz] := hD
    refine toi hw_28 ?_
    have hP : va_P G vwCl [oM b (nI (qTray (nI j_tr) k mn)) tp bt (nI ey) le en wo, aI cI (b 1) 4 (nF ms), aI cI (b 2) 4 (oF mm), aJ cJ (b 3) 240 mz] H := by
      have ew : ([oM b (nI 1) tp bt (nI ey) le en wo, aI cI (b 1) 4 (nF ms), aI cI (b 2) 4 (oF mm), aJ cJ (b 3) 240 mz] : va_W) = [oM b (nI (qTray (nI j_tr) k mn)) tp bt (nI ey) le en wo, aI cI (b 1) 4 (nF ms), aI cI (b 2) 4 (oF mm), aJ cJ (b 3) 240 mz] := (wvC (congrArg (fun zz => oM b zz tp bt (nI ey) le en wo) (show nI 1 = nI (qTray (nI j_tr) k mn) from (congrArg nI (show 1 = (qTray (nI j_tr) k mn) from by first | (have k9 : ¬ okTray tr k mn := (fun h => c_4 h.1); simp [qTray, cif_neg k9]; done) | (have k9 : ¬ okTray (nI j_tr) k mn := (fun h => nrg_lt c_8 h.2.1); simp [qTray, cif_neg k9]; done) | (have k9 : ¬ okTray (nI j_tr) k mn := (fun h => ngt_rg c_13 h.2.1); simp [qTray, cif_neg k9]; done) | (have k9 : ¬ okTray (nI j_tr) k mn := (fun h => nrg_lt c_17 h.2.2); simp [qTray, cif_neg k9]; done) | (have k9 : ¬ okTray (nI j_tr) k mn := (fun h => ngt_rg (Int32.not_le.mp c_23) h.2.2); simp [qTray, cif_neg k9]; done))))) (wvC rfl (wvC rfl (wvC rfl rfl))))
      rw [← ew]; exact hP
    exact W.zret (v := bi (1 = 0)) hx hb hr bi_nar (fun zt ht zw => ⟨⟨_, (ms, mm, mz), rfl, ⟨(bi_cong (show 1 = 0 ↔ qTray (nI j_tr) k mn = 0 from by first | (have k9 : ¬ okTray tr k mn := (fun h => c_4 h.1); simp [qTray, cif_neg k9]; done) | (have k9 : ¬ okTray (nI j_tr) k mn := (fun h => nrg_lt c_8 h.2.1); simp [qTray, cif_neg k9]; done) | (have k9 : ¬ okTray (nI j_tr) k mn := (fun h => ngt_rg c_13 h.2.1); simp [qTray, cif_neg k9]; done) | (have k9 : ¬ okTray (nI j_tr) k mn := (fun h => nrg_lt c_17 h.2.2); simp [qTray, cif_neg k9]; done) | (have k9 : ¬ okTray (nI j_tr) k mn := (fun h => ngt_rg (Int32.not_le.mp c_23) h.2.2); simp [qTray, cif_neg k9]; done))), (by first | (have k9 : ¬ okTray tr k mn := (fun h => c_4 h.1); simp only [soTray, szTray, zTray, cif_neg k9]; exact hM) | (have k9 : ¬ okTray (nI j_tr) k mn := (fun h => nrg_lt c_8 h.2.1); simp only [soTray, szTray, zTray, cif_neg k9]; exact hM) | (have k9 : ¬ okTray (nI j_tr) k mn := (fun h => ngt_rg c_13 h.2.1); simp only [soTray, szTray, zTray, cif_neg k9]; exact hM) | (have k9 : ¬ okTray (nI j_tr) k mn := (fun h => nrg_lt c_17 h.2.2); simp only [soTray, szTray, zTray, cif_neg k9]; exact hM) | (have k9 : ¬ okTray (nI j_tr) k mn := (fun h => ngt_rg (Int32.not_le.mp c_23) h.2.2); simp only [soTray, szTray, zTray, cif_neg k9]; exact hM))⟩, by show va_P _ _ _ zt.heap; rw [ht]; exact hP⟩, by rw [hAe]; exact hS.F ht⟩) hS.2.2 dX8_tray_31
  refine lv_iload_n hx hb dX8_tray_20 rfl (lv_at hl 3 rfl) ?_
  refine lv_bipush (v := nI 60) hx hb dX8_tray_21 (by decide) ?_
  refine lv_icmp_le (tgt := 32) hx hb dX8_tray_23 (by decide) (fun c_23 => ?_) (fun c_23 => ?_)
  · have r2 : rg k 4 := rg_of c_8 (fun h => c_13 (by have h1 := Int32.le_iff_toInt_le.mp h; rw [nI_toInt (by decide)] at h1; apply Int32.lt_iff_toInt_lt.mpr; rw [nI_toInt (by decide)]; omega)) (by decide)
    have r3 : rg mn 61 := rg_of c_17 (fun h => by have h1 := Int32.le_iff_toInt_le.mp h; rw [nI_toInt (by decide)] at h1; have h2 := Int32.le_iff_toInt_le.mp c_23; rw [nI_toInt (by decide)] at h2; omega) (by decide)
    obtain ⟨j_k, h_k, rfl⟩ := rg_ex r2
    have e_k := nn_nI (j := j_k) (by omega)
    obtain ⟨j_mn, h_mn, rfl⟩ := rg_ex r3
    have e_mn := nn_nI (j := j_mn) (by omega)
    refine lv_aload_n hx hb dX8_tray_32 rfl (lv_at hl 0 rfl) ?_
    refine va_get (D := G) (own := RX8) (ref := "SpotRowsModel") (ci := 8) (v := .ref (b 1)) (C := RX8) (T := TX8) (N := 23) hx hb hts hinX8 hown hK.1 hP 0 rfl rfl 3 (by decide) fl13 (fun _ h9 => h9) rfl dX8_tray_33 ?_
    refine lv_iload_n hx hb dX8_tray_36 rfl (lv_at hl 1 rfl) ?_
    refine lv_iload_n hx hb dX8_tray_37 rfl (lv_at hl 2 rfl) ?_
    refine st_nF hx hb hK hP hD hS 1 (k := j_tr) rfl (by omega) (by decide) dX8_tray_38 (fun H locs hP hD hS => ?_)
    have hP : va_P G vwCl [oM b st tp bt (nI ey) le en wo, aI cI (b 1) 4 (nF (upN ms j_tr j_k)), aI cI (b 2) 4 (oF mm), aJ cJ (b 3) 240 mz] H := hP
    have hD : va_D A [oM b st tp bt (nI ey) le en wo, aI cI (b 1) 4 (nF (upN ms j_tr j_k)), aI cI (b 2) 4 (oF mm), aJ cJ (b 3) 240 mz] := hD
    refine lv_aload_n hx hb dX8_tray_39 rfl (lv_at hl 0 rfl) ?_
    refine va_get (D := G) (own := RX8) (ref := "SpotRowsModel") (ci := 8) (v := .ref (b 2)) (C := RX8) (T := TX8) (N := 23) hx hb hts hinX8 hown hK.1 hP 0 rfl rfl 4 (by decide) fl17 (fun _ h9 => h9) rfl dX8_tray_40 ?_
    refine lv_iload_n hx hb dX8_tray_43 rfl (lv_at hl 1 rfl) ?_
    refine lv_iload_n hx hb dX8_tray_44 rfl (lv_at hl 3 rfl) ?_
    refine toi (nI_o j_mn) ?_
    refine st_oF hx hb hK hP hD hS 2 (k := j_tr) rfl (by omega) (by decide) dX8_tray_45 (fun H locs hP hD hS => ?_)
    have hP : va_P G vwCl [oM b st tp bt (nI ey) le en wo, aI cI (b 1) 4 (nF (upN ms j_tr j_k)), aI cI (b 2) 4 (oF (upN mm j_tr (j_mn + 1))), aJ cJ (b 3) 240 mz] H := hP
    have hD : va_D A [oM b st tp bt (nI ey) le en wo, aI cI (b 1) 4 (nF (upN ms j_tr j_k)), aI cI (b 2) 4 (oF (upN mm j_tr (j_mn + 1))), aJ cJ (b 3) 240 mz] := hD
    refine lv_iconst (v := nI 0) hx hb dX8_tray_46 (by decide) ?_
    refine lv_istore (lv' := [(4, .int (nI 0)), (0, .ref (b 0)), (1, .int (nI j_tr)), (2, .int (nI j_k)), (3, .int (nI j_mn))]) hx hb dX8_tray_47 hl (by decide) rfl (fun ls hl => ?_)
    have lp_49 : ∀ (nf : Nat) (i : Nat), (i ≤ j_mn) → j_mn - i < nf → ∀ (H : Heap) (locs : List Loc), va_P G vwCl [oM b st tp bt (nI ey) le en wo, aI cI (b 1) 4 (nF (upN ms j_tr j_k)), aI cI (b 2) 4 (oF (upN mm j_tr (j_mn + 1))), aJ cJ (b 3) 240 (fil mz (lN 0) (60 * j_tr) (60 * j_tr + i))] H → va_D A [oM b st tp bt (nI ey) le en wo, aI cI (b 1) 4 (nF (upN ms j_tr j_k)), aI cI (b 2) 4 (oF (upN mm j_tr (j_mn + 1))), aJ cJ (b 3) 240 (fil mz (lN 0) (60 * j_tr) (60 * j_tr + i))] → va_S A s.heap H locs → ∀ (ls : Array Slot), lv_has ls 5 [(0, .ref (b 0)), (1, .int (nI j_tr)), (2, .int (nI j_k)), (3, .int (nI j_mn)), (4, .int (nI i))] → W pg l ev (headSpec wsX8_tray ({ frames := 1, cells := 0, slots := 0, locals := 21 })).room s mt ([.ref (b 0), .int (nI j_tr), .int (nI j_k), .int (nI j_mn)] : List Value).toArray below meth cd H locs 0 0 (MQ below (rwQi G [oM b st tp bt (nI ey) le en wo, aI cI (b 1) 4 (nF ms), aI cI (b 2) 4 (oF mm), aJ cJ (b 3) 240 mz] (fun (r : Int32) (u : (Nat → Nat) × (Nat → Nat) × (Nat → Int64)) => match u with | (ms2, mm2, mz2) => r = bi (qTray (nI j_tr) (nI j_k) (nI j_mn) = 0) ∧ MT (soTray so (nI j_tr) (nI j_k) (nI j_mn)) (szTray sz (nI j_tr) (nI j_k) (nI j_mn)) (zTray z (nI j_tr) (nI j_k) (nI j_mn)) ms2 mm2 mz2) (fun (u : (Nat → Nat) × (Nat → Nat) × (Nat → Int64)) => match u with | (ms2, mm2, mz2) => [oM b (nI (qTray (nI j_tr) (nI j_k) (nI j_mn))) tp bt (nI ey) le en wo, aI cI (b 1) 4 (nF ms2), aI cI (b 2) 4 (oF mm2), aJ cJ (b 3) 240 mz2])) ([.ref (b 0), .int (nI j_tr), .int (nI j_k), .int (nI j_mn)] : List Value).toArray s 0 0 A) (F0 mt 49 ls []) := by
      intro nf
      induction nf with
      | zero => intro i hi hfu; exact absurd hfu (Nat.not_lt_zero _)
      | succ nf ih_49 =>
        intro i hi hfu H locs hP hD hS ls hl
        refine lv_iload hx hb dX8_tray_49 (lv_at hl 4 rfl) ?_
        refine lv_iload_n hx hb dX8_tray_51 rfl (lv_at hl 3 rfl) ?_
        refine nv_icmp_ge (tgt := 74) hx hb dX8_tray_52 (by decide) (by omega) (by omega) (fun c_52 => ?_) (fun c_52 => ?_)
        · refine lv_aload_n hx hb dX8_tray_74 rfl (lv_at hl 0 rfl) ?_
          refine lv_iconst (v := nI 0) hx hb dX8_tray_75 (by decide) ?_
          refine crw_i (va_runV (As := [.int (nI 0)]) (rest := []) ⟨hx, hb, hml, hown, hts⟩ (c_X8_is l G cI cJ (b := b) (st := st) (tp := tp) (bt := bt) (ey := ey) (le := le) (en := en) (wo := wo) (w := 0) (hw := by first | assumption | omega)) (cwV 1 hts gX8_tray_X8_is rfl rfl rfl (by decide +kernel) ⟨Nat.le_of_ble_eq_true rfl, Nat.le_of_ble_eq_true rfl⟩) (preV_rw (wc := [oM b st tp bt (nI ey) le en wo]) hK hP hD [0] rfl rfl 8 0 rfl rfl rfl) rfl rfl hl.1 rfl (lv_room (Nat.le_of_ble_eq_true rfl)) dX8_tray_76 ⟨Nat.zero_le _, Nat.zero_le _⟩) hP hD hS [0] rfl [b 0] (fun u => rfl) rfl (fun r_76 u_ H locs hw_76 hP hD hS => ?_)
          have hP : va_P G vwCl [oM b (nI 0) tp bt (nI ey) le en wo, aI cI (b 1) 4 (nF (upN ms j_tr j_k)), aI cI (b 2) 4 (oF (upN mm j_tr (j_mn + 1))), aJ cJ (b 3) 240 (fil mz (lN 0) (60 * j_tr) (60 * j_tr + i))] H := hP
          have hD : va_D A [oM b (nI 0) tp bt (nI ey) le en wo, aI cI (b 1) 4 (nF (upN ms j_tr j_k)), aI cI (b 2) 4 (oF (upN mm j_tr (j_mn + 1))), aJ cJ (b 3) 240 (fil mz (lN 0) (60 * j_tr) (60 * j_tr + i))] := hD
          refine toi hw_76 ?_
          have hP : va_P G vwCl [oM b (nI (qTray (nI j_tr) (nI j_k) (nI j_mn))) tp bt (nI ey) le en wo, aI cI (b 1) 4 (nF (upN ms j_tr j_k)), aI cI (b 2) 4 (oF (upN mm j_tr (j_mn + 1))), aJ cJ (b 3) 240 (fil mz (lN 0) (60 * j_tr) (60 * j_tr + i))] H := by
            have ew : ([oM b (nI 0) tp bt (nI ey) le en wo, aI cI (b 1) 4 (nF (upN ms j_tr j_k)), aI cI (b 2) 4 (oF (upN mm j_tr (j_mn + 1))), aJ cJ (b 3) 240 (fil mz (lN 0) (60 * j_tr) (60 * j_tr + i))] : va_W) = [oM b (nI (qTray (nI j_tr) (nI j_k) (nI j_mn))) tp bt (nI ey) le en wo, aI cI (b 1) 4 (nF (upN ms j_tr j_k)), aI cI (b 2) 4 (oF (upN mm j_tr (j_mn + 1))), aJ cJ (b 3) 240 (fil mz (lN 0) (60 * j_tr) (60 * j_tr + i))] := (wvC (congrArg (fun zz => oM b zz tp bt (nI ey) le en wo) (show nI 0 = nI (qTray (nI j_tr) (nI j_k) (nI j_mn)) from (congrArg nI (show 0 = (qTray (nI j_tr) (nI j_k) (nI j_mn)) from by have k9 : okTray (nI j_tr) (nI j_k) (nI j_mn) := ⟨c_4, r2, r3⟩; simp [qTray, cif_pos k9])))) (wvC rfl (wvC rfl (wvC rfl rfl))))
            rw [← ew]; exact hP
          exact W.zret (v := bi (0 = 0)) hx hb hr bi_nar (fun zt ht zw => ⟨⟨_, (upN ms j_tr j_k, upN mm j_tr (j_mn + 1), fil mz (lN 0) (60 * j_tr) (60 * j_tr + i)), rfl, ⟨(bi_cong (show 0 = 0 ↔ qTray (nI j_tr) (nI j_k) (nI j_mn) = 0 from by have k9 : okTray (nI j_tr) (nI j_k) (nI j_mn) := ⟨c_4, r2, r3⟩; simp [qTray, cif_pos k9])), (by have k9 : okTray (nI j_tr) (nI j_k) (nI j_mn) := ⟨c_4, r2, r3⟩; simp only [soTray, szTray, zTray, cif_pos k9, e_tr, e_k, e_mn]; rw [show i = j_mn from by omega]; exact MT_tray ts hM (by omega) (by omega))⟩, by show va_P _ _ _ zt.heap; rw [ht]; exact hP⟩, by rw [hAe]; exact hS.F ht⟩) hS.2.2 dX8_tray_79
        refine lv_aload_n hx hb dX8_tray_55 rfl (lv_at hl 0 rfl) ?_
        refine va_get (D := G) (own := RX8) (ref := "SpotRowsModel") (ci := 8) (v := .ref (b 3)) (C := RX8) (T := TX8) (N := 23) hx hb hts hinX8 hown hK.1 hP 0 rfl rfl 5 (by decide) fl20 (fun _ h9 => h9) rfl dX8_tray_56 ?_
        refine lv_bipush (v := nI 60) hx hb dX8_tray_59 (by decide) ?_
        refine lv_iload_n hx hb dX8_tray_61 rfl (lv_at hl 1 rfl) ?_
        refine lv_imul hx hb dX8_tray_62 ?_
        refine toi (pk_mul 60 j_tr) ?_
        refine lv_iload hx hb dX8_tray_63 (lv_at hl 4 rfl) ?_
        refine lv_iadd hx hb dX8_tray_65 ?_
        refine toi (nI_add (60 * j_tr) i) ?_
        refine lv_lconst (v := lN 0) hx hb dX8_tray_66 (by decide) ?_
        refine st_J hx hb hK hP hD hS 3 (k := 60 * j_tr + i) rfl (by omega) (by decide) dX8_tray_67 (fun H locs hP hD hS => ?_)
        have hP : va_P G vwCl [oM b st tp bt (nI ey) le en wo, aI cI (b 1) 4 (nF (upN ms j_tr j_k)), aI cI (b 2) 4 (oF (upN mm j_tr (j_mn + 1))), aJ cJ (b 3) 240 (upN (fil mz (lN 0) (60 * j_tr) (60 * j_tr + i)) (60 * j_tr + i) (lN 0))] H := hP
        have hD : va_D A [oM b st tp bt (nI ey) le en wo, aI cI (b 1) 4 (nF (upN ms j_tr j_k)), aI cI (b 2) 4 (oF (upN mm j_tr (j_mn + 1))), aJ cJ (b 3) 240 (upN (fil mz (lN 0) (60 * j_tr) (60 * j_tr + i)) (60 * j_tr + i) (lN 0))] := hD
        refine lv_iinc (v := nI (i + 1)) (lv' := [(4, .int (nI (i + 1))), (0, .ref (b 0)), (1, .int (nI j_tr)), (2, .int (nI j_k)), (3, .int (nI j_mn))]) hx hb dX8_tray_68 hl (k := 4) rfl (nI_add i 1) (by decide) rfl (fun ls hl => ?_)
        refine lv_goto (tgt := 49) hx hb dX8_tray_71 (by decide) ?_
        have hw_49 : ([oM b st tp bt (nI ey) le en wo, aI cI (b 1) 4 (nF (upN ms j_tr j_k)), aI cI (b 2) 4 (oF (upN mm j_tr (j_mn + 1))), aJ cJ (b 3) 240 (upN (fil mz (lN 0) (60 * j_tr) (60 * j_tr + i)) (60 * j_tr + i) (lN 0))] : va_W) = [oM b st tp bt (nI ey) le en wo, aI cI (b 1) 4 (nF (upN ms j_tr j_k)), aI cI (b 2) 4 (oF (upN mm j_tr (j_mn + 1))), aJ cJ (b 3) 240 (fil mz (lN 0) (60 * j_tr) (60 * j_tr + (i + 1)))] := (wvC rfl (wvC rfl (wvC rfl (wvC (congrArg (fun z => aJ cJ (b 3) 240 z) (show upN (fil mz (lN 0) (60 * j_tr) (60 * j_tr + i)) (60 * j_tr + i) (lN 0) = fil mz (lN 0) (60 * j_tr) (60 * j_tr + (i + 1)) from by exact fil_s mz (lN 0) (by omega))) rfl))))
        exact ih_49 (i + 1) (by first | rfl | omega | (simp_all; done)) (by omega) H locs (hw_49 ▸ hP) (hw_49 ▸ hD) hS ls (lvcv (l := [(0, .ref (b 0)), (1, .int (nI j_tr)), (2, .int (nI j_k)), (3, .int (nI j_mn)), (4, .int (nI (i + 1)))]) (lv_sub hl [1, 2, 3, 4, 0] rfl) (lvC (lvC (lvC (lvC (lvC rfl))))))
    have hw_49 : ([oM b st tp bt (nI ey) le en wo, aI cI (b 1) 4 (nF (upN ms j_tr j_k)), aI cI (b 2) 4 (oF (upN mm j_tr (j_mn + 1))), aJ cJ (b 3) 240 mz] : va_W) = [oM b st tp bt (nI ey) le en wo, aI cI (b 1) 4 (nF (upN ms j_tr j_k)), aI cI (b 2) 4 (oF (upN mm j_tr (j_mn + 1))), aJ cJ (b 3) 240 (fil mz (lN 0) (60 * j_tr) (60 * j_tr + 0))] := (wvC rfl (wvC rfl (wvC rfl (wvC (congrArg (fun z => aJ cJ (b 3) 240 z) (show mz = fil mz (lN 0) (60 * j_tr) (60 * j_tr + 0) from by exact (fil_0 mz (lN 0) (60 * j_tr)).symm)) rfl))))
    exact lp_49 (j_mn - 0 + 1) 0 (by first | rfl | omega | (simp_all; done)) (by omega) _ _ (hw_49 ▸ hP) (hw_49 ▸ hD) hS ls (lvcv (l := [(0, .ref (b 0)), (1, .int (nI j_tr)), (2, .int (nI j_k)), (3, .int (nI j_mn)), (4, .int (nI 0))]) (lv_sub hl [1, 2, 3, 4, 0] rfl) (lvC (lvC (lvC (lvC (lvC rfl))))))
  refine lv_aload_n hx hb dX8_tray_26 rfl (lv_at hl 0 rfl) ?_
  refine lv_iconst (v := nI 1) hx hb dX8_tray_27 (by decide) ?_
  refine crw_i (va_runV (As := [.int (nI 1)]) (rest := []) ⟨hx, hb, hml, hown, hts⟩ (c_X8_is l G cI cJ (b := b) (st := st) (tp := tp) (bt := bt) (ey := ey) (le := le) (en := en) (wo := wo) (w := 1) (hw := by first | assumption | omega)) (cwV 1 hts gX8_tray_X8_is rfl rfl rfl (by decide +kernel) ⟨Nat.le_of_ble_eq_true rfl, Nat.le_of_ble_eq_true rfl⟩) (preV_rw (wc := [oM b st tp bt (nI ey) le en wo]) hK hP hD [0] rfl rfl 8 0 rfl rfl rfl) rfl rfl hl.1 rfl (lv_room (Nat.le_of_ble_eq_true rfl)) dX8_tray_28 ⟨Nat.zero_le _, Nat.zero_le _⟩) hP hD hS [0] rfl [b 0] (fun u => rfl) rfl (fun r_28 u_ H locs hw_28 hP hD hS => ?_)
  have hP : va_P G vwCl [oM b (nI 1) tp bt (nI ey) le en wo, aI cI (b 1) 4 (nF ms), aI cI (b 2) 4 (oF mm), aJ cJ (b 3) 240 mz] H := hP
  have hD : va_D A [oM b (nI 1) tp bt (nI ey) le en wo, aI cI (b 1) 4 (nF ms), aI cI (b 2) 4 (oF mm), aJ cJ (b 3) 240 mz] := hD
  refine toi hw_28 ?_
  have hP : va_P G vwCl [oM b (nI (qTray (nI j_tr) k mn)) tp bt (nI ey) le en wo, aI cI (b 1) 4 (nF ms), aI cI (b 2) 4 (oF mm), aJ cJ (b 3) 240 mz] H := by
    have ew : ([oM b (nI 1) tp bt (nI ey) le en wo, aI cI (b 1) 4 (nF ms), aI cI (b 2) 4 (oF mm), aJ cJ (b 3) 240 mz] : va_W) = [oM b (nI (qTray (nI j_tr) k mn)) tp bt (nI ey) le en wo, aI cI (b 1) 4 (nF ms), aI cI (b 2) 4 (oF mm), aJ cJ (b 3) 240 mz] := (wvC (congrArg (fun zz => oM b zz tp bt (nI ey) le en wo) (show nI 1 = nI (qTray (nI j_tr) k mn) from (congrArg nI (show 1 = (qTray (nI j_tr) k mn) from by first | (have k9 : ¬ okTray tr k mn := (fun h => c_4 h.1); simp [qTray, cif_neg k9]; done) | (have k9 : ¬ okTray (nI j_tr) k mn := (fun h => nrg_lt c_8 h.2.1); simp [qTray, cif_neg k9]; done) | (have k9 : ¬ okTray (nI j_tr) k mn := (fun h => ngt_rg c_13 h.2.1); simp [qTray, cif_neg k9]; done) | (have k9 : ¬ okTray (nI j_tr) k mn := (fun h => nrg_lt c_17 h.2.2); simp [qTray, cif_neg k9]; done) | (have k9 : ¬ okTray (nI j_tr) k mn := (fun h => ngt_rg (Int32.not_le.mp c_23) h.2.2); simp [qTray, cif_neg k9]; done))))) (wvC rfl (wvC rfl (wvC rfl rfl))))
    rw [← ew]; exact hP
  exact W.zret (v := bi (1 = 0)) hx hb hr bi_nar (fun zt ht zw => ⟨⟨_, (ms, mm, mz), rfl, ⟨(bi_cong (show 1 = 0 ↔ qTray (nI j_tr) k mn = 0 from by first | (have k9 : ¬ okTray tr k mn := (fun h => c_4 h.1); simp [qTray, cif_neg k9]; done) | (have k9 : ¬ okTray (nI j_tr) k mn := (fun h => nrg_lt c_8 h.2.1); simp [qTray, cif_neg k9]; done) | (have k9 : ¬ okTray (nI j_tr) k mn := (fun h => ngt_rg c_13 h.2.1); simp [qTray, cif_neg k9]; done) | (have k9 : ¬ okTray (nI j_tr) k mn := (fun h => nrg_lt c_17 h.2.2); simp [qTray, cif_neg k9]; done) | (have k9 : ¬ okTray (nI j_tr) k mn := (fun h => ngt_rg (Int32.not_le.mp c_23) h.2.2); simp [qTray, cif_neg k9]; done))), (by first | (have k9 : ¬ okTray tr k mn := (fun h => c_4 h.1); simp only [soTray, szTray, zTray, cif_neg k9]; exact hM) | (have k9 : ¬ okTray (nI j_tr) k mn := (fun h => nrg_lt c_8 h.2.1); simp only [soTray, szTray, zTray, cif_neg k9]; exact hM) | (have k9 : ¬ okTray (nI j_tr) k mn := (fun h => ngt_rg c_13 h.2.1); simp only [soTray, szTray, zTray, cif_neg k9]; exact hM) | (have k9 : ¬ okTray (nI j_tr) k mn := (fun h => nrg_lt c_17 h.2.2); simp only [soTray, szTray, zTray, cif_neg k9]; exact hM) | (have k9 : ¬ okTray (nI j_tr) k mn := (fun h => ngt_rg (Int32.not_le.mp c_23) h.2.2); simp only [soTray, szTray, zTray, cif_neg k9]; exact hM))⟩, by show va_P _ _ _ zt.heap; rw [ht]; exact hP⟩, by rw [hAe]; exact hS.F ht⟩) hS.2.2 dX8_tray_31

set_option maxHeartbeats 400000 in
set_option maxRecDepth 100000 in
theorem c_X8_wrongPlace (l : Launch) (G : va_G) (cI cJ : ClassId) (b : Nat → Nat) (st : Int32) (tp : Int64) (bt : Int64) (ey : Nat) (le : Int32) (en : Int32) (wo : Int32) (so : Nat → Nat) (sz : Nat → Nat) (z : Nat → Int64) (ms : Nat → Nat) (mm : Nat → Nat) (mz : Nat → Int64) (tr : Int32) (pl : Int32) (ts : TS so sz) (hM : MT so sz z ms mm mz) : Met l yX8_wrongPlace wsX8_wrongPlace ({ frames := 1, cells := 0, slots := 0, locals := 20 }) (roP G cI cJ [.ref (b 0), .int tr, .int pl] [oM b st tp bt (nI ey) le en wo, aI cI (b 2) 4 (oF mm)]) (vp_Si (fun r => r = nI (wnp so sz tr pl))) 0 0 (fun _ => False) := by
  refine Met.ofW (cc := cX8_wrongPlace) (maxL := 3) (ret := (some .int)) (by decide) rfl ?_
  intro pg ev s mt args below meth cd s₁ B hml hv
  obtain ⟨rfl, hP, hK⟩ := hv
  have hx := B.exec
  have hb := B.bytes
  have hr := B.returns
  have hts := atoms_spec (ws := wsX8_wrongPlace) B.pre
  have hown : s.vm.findClass RX8 = some mt.cls := findClass_of_methodNamed B.named
  have hlocks := B.notSynchronized
  have hP : va_P G vwCl [oM b st tp bt (nI ey) le en wo, aI cI (b 2) 4 (oF mm)] s.heap := hP
  have hinX8 := (show ∀ w ∈ u_ws RX8 TX8 23, w ∈ wsX8_wrongPlace by decide +kernel)
  have fl17 := hts (.fieldLink RX8 17 "SpotRowsModel" "many" "[I") (by decide +kernel)
  have hl := lv_entry ([.ref (b 0), .int tr, .int pl]) (n := 3) (Nat.le_of_ble_eq_true rfl)
  rw [lg_entry_eq]
  generalize (lg_sl ([.ref (b 0), .int tr, .int pl]) ++ List.replicate (3 - (lg_sl ([.ref (b 0), .int tr, .int pl])).length) Slot.unset).toArray = ls at hl ⊢
  have hl : lv_has ls 3 [(0, .ref (b 0)), (1, .int tr), (2, .int pl)] := hl
  refine lv_iload_n hx hb dX8_wrongPlace_0 rfl (lv_at hl 1 rfl) ?_
  refine cro_i (va_runS (As := [.int tr]) (rest := []) ⟨hx, hb, hml, hown, hts⟩ (c_X8_isTray l G cI cJ (x := tr) ) (va_cwS 1 hts gX8_wrongPlace_X8_isTray rfl rfl rfl (by decide +kernel) ⟨Nat.le_of_ble_eq_true rfl, Nat.le_of_ble_eq_true rfl⟩) (preS_ro (wc := []) hK hP [] rfl) rfl rfl hl.1 rfl (lv_room (Nat.le_of_ble_eq_true rfl)) dX8_wrongPlace_1 ⟨Nat.zero_le _, Nat.zero_le _⟩) ?_
  refine nb_if_ne (tgt := 11) hx hb dX8_wrongPlace_4 (by decide) (fun c_4 => ?_) (fun c_4 => ?_)
  · obtain ⟨j_tr, h_tr, rfl⟩ := rg_ex c_4
    have e_tr := nn_nI (j := j_tr) (by omega)
    have h8 := ts j_tr
    have mb := MT_b ts hM h_tr
    refine lv_aload_n hx hb dX8_wrongPlace_11 rfl (lv_at hl 0 rfl) ?_
    refine va_get (D := G) (own := RX8) (ref := "SpotRowsModel") (ci := 8) (v := .ref (b 2)) (C := RX8) (T := TX8) (N := 23) hx hb hts hinX8 hown hK.1 hP 0 rfl rfl 4 (by decide) fl17 (fun _ h9 => h9) rfl dX8_wrongPlace_12 ?_
    refine lv_iload_n hx hb dX8_wrongPlace_15 rfl (lv_at hl 1 rfl) ?_
    refine ld_oF hx hb hK hP 1 (k := j_tr) rfl (by first | omega | exact MT_b ts hM (by omega)) (by decide) dX8_wrongPlace_16 ?_
    refine lv_iconst (v := (-1)) hx hb dX8_wrongPlace_17 (by decide) ?_
    refine no_icmp_ne (tgt := 25) hx hb dX8_wrongPlace_18 (by decide) (by first | omega | exact MT_b ts hM (by omega)) (fun c_18 => ?_) (fun c_18 => ?_)
    · have s0 : so j_tr ≠ 0 := fun h => c_18 ((MT_0 hM (by omega)).mpr h)
      have mv := ((hM j_tr (by omega)).2 s0).2.1
      refine lv_iload_n hx hb dX8_wrongPlace_25 rfl (lv_at hl 2 rfl) ?_
      refine lv_if_lt (tgt := 39) hx hb dX8_wrongPlace_26 (by decide) (fun c_26 => ?_) (fun c_26 => ?_)
      · refine lv_iconst (v := nI 3) hx hb dX8_wrongPlace_39 (by decide) ?_
        refine lv_goto (tgt := 44) hx hb dX8_wrongPlace_40 (by decide) ?_
        exact W.iret (v := nI 3) hx hb hr (fun zt ht zw => ⟨_, rfl, (congrArg nI (show 3 = (wnp so sz (nI j_tr) pl) from by unfold wnp; first | (rw [cif_neg c_4]; done) | (rw [cif_pos c_4, e_tr, if_pos ((MT_0 hM (by omega)).mp c_18)]; done) | (rw [cif_pos c_4, e_tr, if_neg s0, cif_neg (nrg_lt c_26)]; done) | (rw [cif_pos c_4, e_tr, if_neg s0, cif_neg (nrg_ge (Int32.not_lt.mp c_36) (by omega))]; done) | (rw [cif_pos c_4, e_tr, if_neg s0, cif_pos (rg_of c_26 (Int32.not_le.mpr c_36) (by omega))]; done))), ht⟩) (fun q hq => absurd hq List.not_mem_nil) dX8_wrongPlace_44
      refine lv_iload_n hx hb dX8_wrongPlace_29 rfl (lv_at hl 2 rfl) ?_
      refine lv_aload_n hx hb dX8_wrongPlace_30 rfl (lv_at hl 0 rfl) ?_
      refine va_get (D := G) (own := RX8) (ref := "SpotRowsModel") (ci := 8) (v := .ref (b 2)) (C := RX8) (T := TX8) (N := 23) hx hb hts hinX8 hown hK.1 hP 0 rfl rfl 4 (by decide) fl17 (fun _ h9 => h9) rfl dX8_wrongPlace_31 ?_
      refine lv_iload_n hx hb dX8_wrongPlace_34 rfl (lv_at hl 1 rfl) ?_
      refine ld_oF hx hb hK hP 1 (k := j_tr) rfl (by first | omega | exact MT_b ts hM (by omega)) (by decide) dX8_wrongPlace_35 ?_
      refine toi (oI_pos (by first | assumption | omega)) ?_
      refine toi (show (nI (mm j_tr - 1)) = (nI (sz j_tr)) from congrArg nI (by omega)) ?_
      refine lv_icmp_lt (tgt := 43) hx hb dX8_wrongPlace_36 (by decide) (fun c_36 => ?_) (fun c_36 => ?_)
      · refine lv_iconst (v := nI 0) hx hb dX8_wrongPlace_43 (by decide) ?_
        exact W.iret (v := nI 0) hx hb hr (fun zt ht zw => ⟨_, rfl, (congrArg nI (show 0 = (wnp so sz (nI j_tr) pl) from by unfold wnp; first | (rw [cif_neg c_4]; done) | (rw [cif_pos c_4, e_tr, if_pos ((MT_0 hM (by omega)).mp c_18)]; done) | (rw [cif_pos c_4, e_tr, if_neg s0, cif_neg (nrg_lt c_26)]; done) | (rw [cif_pos c_4, e_tr, if_neg s0, cif_neg (nrg_ge (Int32.not_lt.mp c_36) (by omega))]; done) | (rw [cif_pos c_4, e_tr, if_neg s0, cif_pos (rg_of c_26 (Int32.not_le.mpr c_36) (by omega))]; done))), ht⟩) (fun q hq => absurd hq List.not_mem_nil) dX8_wrongPlace_44
      refine lv_iconst (v := nI 3) hx hb dX8_wrongPlace_39 (by decide) ?_
      refine lv_goto (tgt := 44) hx hb dX8_wrongPlace_40 (by decide) ?_
      exact W.iret (v := nI 3) hx hb hr (fun zt ht zw => ⟨_, rfl, (congrArg nI (show 3 = (wnp so sz (nI j_tr) pl) from by unfold wnp; first | (rw [cif_neg c_4]; done) | (rw [cif_pos c_4, e_tr, if_pos ((MT_0 hM (by omega)).mp c_18)]; done) | (rw [cif_pos c_4, e_tr, if_neg s0, cif_neg (nrg_lt c_26)]; done) | (rw [cif_pos c_4, e_tr, if_neg s0, cif_neg (nrg_ge (Int32.not_lt.mp c_36) (by omega))]; done) | (rw [cif_pos c_4, e_tr, if_neg s0, cif_pos (rg_of c_26 (Int32.not_le.mpr c_36) (by omega))]; done))), ht⟩) (fun q hq => absurd hq List.not_mem_nil) dX8_wrongPlace_44
    refine lv_iconst (v := nI 2) hx hb dX8_wrongPlace_21 (by decide) ?_
    refine lv_goto (tgt := 44) hx hb dX8_wrongPlace_22 (by decide) ?_
    exact W.iret (v := nI 2) hx hb hr (fun zt ht zw => ⟨_, rfl, (congrArg nI (show 2 = (wnp so sz (nI j_tr) pl) from by unfold wnp; first | (rw [cif_neg c_4]; done) | (rw [cif_pos c_4, e_tr, if_pos ((MT_0 hM (by omega)).mp c_18)]; done) | (rw [cif_pos c_4, e_tr, if_neg s0, cif_neg (nrg_lt c_26)]; done) | (rw [cif_pos c_4, e_tr, if_neg s0, cif_neg (nrg_ge (Int32.not_lt.mp c_36) (by omega))]; done) | (rw [cif_pos c_4, e_tr, if_neg s0, cif_pos (rg_of c_26 (Int32.not_le.mpr c_36) (by omega))]; done))), ht⟩) (fun q hq => absurd hq List.not_mem_nil) dX8_wrongPlace_44
  refine lv_iconst (v := nI 1) hx hb dX8_wrongPlace_7 (by decide) ?_
  refine lv_goto (tgt := 44) hx hb dX8_wrongPlace_8 (by decide) ?_
  exact W.iret (v := nI 1) hx hb hr (fun zt ht zw => ⟨_, rfl, (congrArg nI (show 1 = (wnp so sz tr pl) from by unfold wnp; first | (rw [cif_neg c_4]; done) | (rw [cif_pos c_4, e_tr, if_pos ((MT_0 hM (by omega)).mp c_18)]; done) | (rw [cif_pos c_4, e_tr, if_neg s0, cif_neg (nrg_lt c_26)]; done) | (rw [cif_pos c_4, e_tr, if_neg s0, cif_neg (nrg_ge (Int32.not_lt.mp c_36) (by omega))]; done) | (rw [cif_pos c_4, e_tr, if_neg s0, cif_pos (rg_of c_26 (Int32.not_le.mpr c_36) (by omega))]; done))), ht⟩) (fun q hq => absurd hq List.not_mem_nil) dX8_wrongPlace_44

set_option maxHeartbeats 400000 in
set_option maxRecDepth 100000 in
theorem c_X8_write (l : Launch) (G : va_G) (cI cJ : ClassId) (b : Nat → Nat) (st : Int32) (tp : Int64) (bt : Int64) (ey : Nat) (le : Int32) (en : Int32) (wo : Int32) (so : Nat → Nat) (sz : Nat → Nat) (z : Nat → Int64) (ms : Nat → Nat) (mm : Nat → Nat) (mz : Nat → Int64) (tr : Int32) (pl : Int32) (v : Int64) (ts : TS so sz) (hM : MT so sz z ms mm mz) : Met l yX8_write wsX8_write ({ frames := 2, cells := 0, slots := 0, locals := 42 }) (rwP G cI cJ [.ref (b 0), .int tr, .int pl, .long v] [oM b st tp bt (nI ey) le en wo, aI cI (b 1) 4 (nF ms), aI cI (b 2) 4 (oF mm), aJ cJ (b 3) 240 mz]) (rwQi G [oM b st tp bt (nI ey) le en wo, aI cI (b 1) 4 (nF ms), aI cI (b 2) 4 (oF mm), aJ cJ (b 3) 240 mz] (fun (r : Int32) (mz2 : (Nat → Int64)) => r = bi (wnp so sz tr pl = 0) ∧ MT so sz (zWrite so sz z tr pl v) ms mm mz2) (fun (mz2 : (Nat → Int64)) => [oM b (nI (wnp so sz tr pl)) tp bt (nI ey) le en wo, aI cI (b 1) 4 (nF ms), aI cI (b 2) 4 (oF mm), aJ cJ (b 3) 240 mz2])) 0 0 (ads [oM b st tp bt (nI ey) le en wo, aI cI (b 1) 4 (nF ms), aI cI (b 2) 4 (oF mm), aJ cJ (b 3) 240 mz]) := by
  refine Met.ofW (cc := cX8_write) (maxL := 6) (ret := (some .boolean)) (by decide) rfl ?_
  intro pg ev s mt args below meth cd s₁ B hml hv
  obtain ⟨rfl, hP, hD0, hK⟩ := hv
  have hx := B.exec
  have hb := B.bytes
  have hr := B.returns
  have hts := atoms_spec (ws := wsX8_write) B.pre
  have hown : s.vm.findClass RX8 = some mt.cls := findClass_of_methodNamed B.named
  have hlocks := B.notSynchronized
  have hD := ads_self hD0
  generalize hAe : ads [oM b st tp bt (nI ey) le en wo, aI cI (b 1) 4 (nF ms), aI cI (b 2) 4 (oF mm), aJ cJ (b 3) 240 mz] = A at hD ⊢
  have hS : va_S A s.heap s.heap [] := va_S.rf
  have hP : va_P G vwCl [oM b st tp bt (nI ey) le en wo, aI cI (b 1) 4 (nF ms), aI cI (b 2) 4 (oF mm), aJ cJ (b 3) 240 mz] s.heap := hP
  have hinX8 := (show ∀ w ∈ u_ws RX8 TX8 23, w ∈ wsX8_write by decide +kernel)
  have fl20 := hts (.fieldLink RX8 20 "SpotRowsModel" "trays" "[J") (by decide +kernel)
  have fl13 := hts (.fieldLink RX8 13 "SpotRowsModel" "sort" "[I") (by decide +kernel)
  have hl := lv_entry ([.ref (b 0), .int tr, .int pl, .long v]) (n := 6) (Nat.le_of_ble_eq_true rfl)
  rw [lg_entry_eq]
  generalize (lg_sl ([.ref (b 0), .int tr, .int pl, .long v]) ++ List.replicate (6 - (lg_sl ([.ref (b 0), .int tr, .int pl, .long v])).length) Slot.unset).toArray = ls at hl ⊢
  have hl : lv_has ls 6 [(0, .ref (b 0)), (1, .int tr), (2, .int pl), (3, .long v)] := hl
  refine lv_aload_n hx hb dX8_write_0 rfl (lv_at hl 0 rfl) ?_
  refine lv_iload_n hx hb dX8_write_1 rfl (lv_at hl 1 rfl) ?_
  refine lv_iload_n hx hb dX8_write_2 rfl (lv_at hl 2 rfl) ?_
  refine cro_i (va_runV (As := [.int tr, .int pl]) (rest := []) ⟨hx, hb, hml, hown, hts⟩ (c_X8_wrongPlace l G cI cJ (b := b) (st := st) (tp := tp) (bt := bt) (ey := ey) (le := le) (en := en) (wo := wo) (so := so) (sz := sz) (z := z) (ms := ms) (mm := mm) (mz := mz) (tr := tr) (pl := pl) (ts := by first | assumption | omega) (hM := by first | assumption | omega)) (cwV 2 hts gX8_write_X8_wrongPlace rfl rfl rfl (by decide +kernel) ⟨Nat.le_of_ble_eq_true rfl, Nat.le_of_ble_eq_true rfl⟩) (preV_ro (wc := [oM b st tp bt (nI ey) le en wo, aI cI (b 2) 4 (oF mm)]) hK hP [0, 2] rfl 8 0 rfl rfl rfl) rfl rfl hl.1 rfl (lv_room (Nat.le_of_ble_eq_true rfl)) dX8_write_3 ⟨Nat.zero_le _, Nat.zero_le _⟩) ?_
  refine lv_istore (lv' := [(5, .int (nI (wnp so sz tr pl))), (0, .ref (b 0)), (1, .int tr), (2, .int pl), (3, .long v)]) hx hb dX8_write_6 hl (by decide) rfl (fun ls hl => ?_)
  refine lv_iload hx hb dX8_write_8 (lv_at hl 0 rfl) ?_
  refine nv_if_ne (tgt := 34) hx hb dX8_write_10 (by decide) (by exact Nat.lt_of_le_of_lt (wnp_le _ _ _ _) (by decide)) (fun c_10 => ?_) (fun c_10 => ?_)
  · refine lv_aload_n hx hb dX8_write_34 rfl (lv_at hl 1 rfl) ?_
    refine lv_iload hx hb dX8_write_35 (lv_at hl 0 rfl) ?_
    refine crw_i (va_runV (As := [.int (nI (wnp so sz tr pl))]) (rest := []) ⟨hx, hb, hml, hown, hts⟩ (c_X8_is l G cI cJ (b := b) (st := st) (tp := tp) (bt := bt) (ey := ey) (le := le) (en := en) (wo := wo) (w := wnp so sz tr pl) (hw := Nat.lt_of_le_of_lt (wnp_le _ _ _ _) (by decide))) (cwV 1 hts gX8_write_X8_is rfl rfl rfl (by decide +kernel) ⟨Nat.le_of_ble_eq_true rfl, Nat.le_of_ble_eq_true rfl⟩) (preV_rw (wc := [oM b st tp bt (nI ey) le en wo]) hK hP hD [0] rfl rfl 8 0 rfl rfl rfl) rfl rfl hl.1 rfl (lv_room (Nat.le_of_ble_eq_true rfl)) dX8_write_37 ⟨Nat.zero_le _, Nat.zero_le _⟩) hP hD hS [0] rfl [b 0] (fun u => rfl) rfl (fun r_37 u_ H locs hw_37 hP hD hS => ?_)
    have hP : va_P G vwCl [oM b (nI (wnp so sz tr pl)) tp bt (nI ey) le en wo, aI cI (b 1) 4 (nF ms), aI cI (b 2) 4 (oF mm), aJ cJ (b 3) 240 mz] H := hP
    have hD : va_D A [oM b (nI (wnp so sz tr pl)) tp bt (nI ey) le en wo, aI cI (b 1) 4 (nF ms), aI cI (b 2) 4 (oF mm), aJ cJ (b 3) 240 mz] := hD
    refine toi hw_37 ?_
    exact W.zret (v := bi ((wnp so sz tr pl) = 0)) hx hb hr bi_nar (fun zt ht zw => ⟨⟨_, mz, rfl, ⟨(bi_cong (show (wnp so sz tr pl) = 0 ↔ wnp so sz tr pl = 0 from by first | rfl | omega | (simp_all; done))), (by first | (rw [zWrite, if_pos c_10, e_tr, e_pl]; exact MT_write ts hM h_tr h_pl _) | (rw [zWrite, if_neg c_10]; exact hM))⟩, by show va_P _ _ _ zt.heap; rw [ht]; exact hP⟩, by rw [hAe]; exact hS.F ht⟩) hS.2.2 dX8_write_40
  obtain ⟨hw1, hw2, hw3⟩ := wnp_0 c_10
  obtain ⟨j_tr, h_tr, rfl⟩ := rg_ex hw1
  have e_tr := nn_nI (j := j_tr) (by omega)
  rw [e_tr] at hw2 hw3
  have h8 := ts j_tr
  obtain ⟨j_pl, h_pl, rfl⟩ := rg_ex hw3
  have e_pl := nn_nI (j := j_pl) (by omega)
  have mv := (hM j_tr h_tr).2 hw2
  refine lv_aload_n hx hb dX8_write_13 rfl (lv_at hl 1 rfl) ?_
  refine va_get (D := G) (own := RX8) (ref := "SpotRowsModel") (ci := 8) (v := .ref (b 3)) (C := RX8) (T := TX8) (N := 23) hx hb hts hinX8 hown hK.1 hP 0 rfl rfl 5 (by decide) fl20 (fun _ h9 => h9) rfl dX8_write_14 ?_
  refine lv_bipush (v := nI 60) hx hb dX8_write_17 (by decide) ?_
  refine lv_iload_n hx hb dX8_write_19 rfl (lv_at hl 2 rfl) ?_
  refine lv_imul hx hb dX8_write_20 ?_
  refine toi (pk_mul 60 j_tr) ?_
  refine lv_iload_n hx hb dX8_write_21 rfl (lv_at hl 3 rfl) ?_
  refine lv_iadd hx hb dX8_write_22 ?_
  refine toi (nI_add (60 * j_tr) j_pl) ?_
  refine lv_lload_n hx hb dX8_write_23 rfl (lv_at hl 4 rfl) ?_
  refine lv_aload_n hx hb dX8_write_24 rfl (lv_at hl 1 rfl) ?_
  refine va_get (D := G) (own := RX8) (ref := "SpotRowsModel") (ci := 8) (v := .ref (b 1)) (C := RX8) (T := TX8) (N := 23) hx hb hts hinX8 hown hK.1 hP 0 rfl rfl 3 (by decide) fl13 (fun _ h9 => h9) rfl dX8_write_25 ?_
  refine lv_iload_n hx hb dX8_write_28 rfl (lv_at hl 2 rfl) ?_
  refine ld_nF hx hb hK hP 1 (k := j_tr) rfl (by omega) (by decide) dX8_write_29 ?_
  refine toi (show (nI (ms j_tr)) = (nI (so j_tr - 1)) from congrArg nI mv.1) ?_
  refine cro_l (va_runS (As := [.long v, .int (nI (so j_tr - 1))]) (rest := [.int (nI (60 * j_tr + j_pl)), .ref (b 3)]) ⟨hx, hb, hml, hown, hts⟩ (c_X8_cut l G cI cJ (v := v) (k := so j_tr - 1) (h1 := by omega)) (va_cwS 2 hts gX8_write_X8_cut rfl rfl rfl (by decide +kernel) ⟨Nat.le_of_ble_eq_true rfl, Nat.le_of_ble_eq_true rfl⟩) (preS_ro (wc := []) hK hP [] rfl) rfl rfl hl.1 rfl (lv_room (Nat.le_of_ble_eq_true rfl)) dX8_write_30 ⟨Nat.zero_le _, Nat.zero_le _⟩) ?_
  refine st_J hx hb hK hP hD hS 3 (k := 60 * j_tr + j_pl) rfl (by omega) (by decide) dX8_write_33 (fun H locs hP hD hS => ?_)
  have hP : va_P G vwCl [oM b st tp bt (nI ey) le en wo, aI cI (b 1) 4 (nF ms), aI cI (b 2) 4 (oF mm), aJ cJ (b 3) 240 (upN mz (60 * j_tr + j_pl) (cutF (so j_tr - 1) v))] H := hP
  have hD : va_D A [oM b st tp bt (nI ey) le en wo, aI cI (b 1) 4 (nF ms), aI cI (b 2) 4 (oF mm), aJ cJ (b 3) 240 (upN mz (60 * j_tr + j_pl) (cutF (so j_tr - 1) v))] := hD
  refine lv_aload_n hx hb dX8_write_34 rfl (lv_at hl 1 rfl) ?_
  refine lv_iload hx hb dX8_write_35 (lv_at hl 0 rfl) ?_
  refine crw_i (va_runV (As := [.int (nI (wnp so sz (nI j_tr) (nI j_pl)))]) (rest := []) ⟨hx, hb, hml, hown, hts⟩ (c_X8_is l G cI cJ (b := b) (st := st) (tp := tp) (bt := bt) (ey := ey) (le := le) (en := en) (wo := wo) (w := wnp so sz (nI j_tr) (nI j_pl)) (hw := Nat.lt_of_le_of_lt (wnp_le _ _ _ _) (by decide))) (cwV 1 hts gX8_write_X8_is rfl rfl rfl (by decide +kernel) ⟨Nat.le_of_ble_eq_true rfl, Nat.le_of_ble_eq_true rfl⟩) (preV_rw (wc := [oM b st tp bt (nI ey) le en wo]) hK hP hD [0] rfl rfl 8 0 rfl rfl rfl) rfl rfl hl.1 rfl (lv_room (Nat.le_of_ble_eq_true rfl)) dX8_write_37 ⟨Nat.zero_le _, Nat.zero_le _⟩) hP hD hS [0] rfl [b 0] (fun u => rfl) rfl (fun r_37 u_ H locs hw_37 hP hD hS => ?_)
  have hP : va_P G vwCl [oM b (nI (wnp so sz (nI j_tr) (nI j_pl))) tp bt (nI ey) le en wo, aI cI (b 1) 4 (nF ms), aI cI (b 2) 4 (oF mm), aJ cJ (b 3) 240 (upN mz (60 * j_tr + j_pl) (cutF (so j_tr - 1) v))] H := hP
  have hD : va_D A [oM b (nI (wnp so sz (nI j_tr) (nI j_pl))) tp bt (nI ey) le en wo, aI cI (b 1) 4 (nF ms), aI cI (b 2) 4 (oF mm), aJ cJ (b 3) 240 (upN mz (60 * j_tr + j_pl) (cutF (so j_tr - 1) v))] := hD
  refine toi hw_37 ?_
  exact W.zret (v := bi ((wnp so sz (nI j_tr) (nI j_pl)) = 0)) hx hb hr bi_nar (fun zt ht zw => ⟨⟨_, upN mz (60 * j_tr + j_pl) (cutF (so j_tr - 1) v), rfl, ⟨(bi_cong (show (wnp so sz (nI j_tr) (nI j_pl)) = 0 ↔ wnp so sz (nI j_tr) (nI j_pl) = 0 from by first | rfl | omega | (simp_all; done))), (by first | (rw [zWrite, if_pos c_10, e_tr, e_pl]; exact MT_write ts hM h_tr h_pl _) | (rw [zWrite, if_neg c_10]; exact hM))⟩, by show va_P _ _ _ zt.heap; rw [ht]; exact hP⟩, by rw [hAe]; exact hS.F ht⟩) hS.2.2 dX8_write_40

set_option maxHeartbeats 400000 in
set_option maxRecDepth 100000 in
theorem c_X8_read (l : Launch) (G : va_G) (cI cJ : ClassId) (b : Nat → Nat) (st : Int32) (tp : Int64) (bt : Int64) (ey : Nat) (le : Int32) (en : Int32) (wo : Int32) (so : Nat → Nat) (sz : Nat → Nat) (z : Nat → Int64) (ms : Nat → Nat) (mm : Nat → Nat) (mz : Nat → Int64) (tr : Int32) (pl : Int32) (ts : TS so sz) (hM : MT so sz z ms mm mz) : Met l yX8_read wsX8_read ({ frames := 2, cells := 0, slots := 0, locals := 42 }) (rwP G cI cJ [.ref (b 0), .int tr, .int pl] [oM b st tp bt (nI ey) le en wo, aI cI (b 2) 4 (oF mm), aJ cJ (b 3) 240 mz]) (rwQl G [oM b st tp bt (nI ey) le en wo, aI cI (b 2) 4 (oF mm), aJ cJ (b 3) 240 mz] (fun (r : Int64) (_ : Unit) => r = rRead so sz z tr pl) (fun (_ : Unit) => [oM b (nI (wnp so sz tr pl)) tp bt (nI ey) le en wo, aI cI (b 2) 4 (oF mm), aJ cJ (b 3) 240 mz])) 0 0 (ads [oM b st tp bt (nI ey) le en wo, aI cI (b 2) 4 (oF mm), aJ cJ (b 3) 240 mz]) := by
  refine Met.ofW (cc := cX8_read) (maxL := 3) (ret := (some .long)) (by decide) rfl ?_
  intro pg ev s mt args below meth cd s₁ B hml hv
  obtain ⟨rfl, hP, hD0, hK⟩ := hv
  have hx := B.exec
  have hb := B.bytes
  have hr := B.returns
  have hts := atoms_spec (ws := wsX8_read) B.pre
  have hown : s.vm.findClass RX8 = some mt.cls := findClass_of_methodNamed B.named
  have hlocks := B.notSynchronized
  have hD := ads_self hD0
  generalize hAe : ads [oM b st tp bt (nI ey) le en wo, aI cI (b 2) 4 (oF mm), aJ cJ (b 3) 240 mz] = A at hD ⊢
  have hS : va_S A s.heap s.heap [] := va_S.rf
  have hP : va_P G vwCl [oM b st tp bt (nI ey) le en wo, aI cI (b 2) 4 (oF mm), aJ cJ (b 3) 240 mz] s.heap := hP
  have hinX8 := (show ∀ w ∈ u_ws RX8 TX8 23, w ∈ wsX8_read by decide +kernel)
  have fl73 := hts (.fieldLink RX8 73 "SpotRowsModel" "status" "I") (by decide +kernel)
  have fl20 := hts (.fieldLink RX8 20 "SpotRowsModel" "trays" "[J") (by decide +kernel)
  have hl := lv_entry ([.ref (b 0), .int tr, .int pl]) (n := 3) (Nat.le_of_ble_eq_true rfl)
  rw [lg_entry_eq]
  generalize (lg_sl ([.ref (b 0), .int tr, .int pl]) ++ List.replicate (3 - (lg_sl ([.ref (b 0), .int tr, .int pl])).length) Slot.unset).toArray = ls at hl ⊢
  have hl : lv_has ls 3 [(0, .ref (b 0)), (1, .int tr), (2, .int pl)] := hl
  refine lv_aload_n hx hb dX8_read_0 rfl (lv_at hl 0 rfl) ?_
  refine lv_aload_n hx hb dX8_read_1 rfl (lv_at hl 0 rfl) ?_
  refine lv_iload_n hx hb dX8_read_2 rfl (lv_at hl 1 rfl) ?_
  refine lv_iload_n hx hb dX8_read_3 rfl (lv_at hl 2 rfl) ?_
  refine cro_i (va_runV (As := [.int tr, .int pl]) (rest := [.ref (b 0)]) ⟨hx, hb, hml, hown, hts⟩ (c_X8_wrongPlace l G cI cJ (b := b) (st := st) (tp := tp) (bt := bt) (ey := ey) (le := le) (en := en) (wo := wo) (so := so) (sz := sz) (z := z) (ms := ms) (mm := mm) (mz := mz) (tr := tr) (pl := pl) (ts := by first | assumption | omega) (hM := by first | assumption | omega)) (cwV 2 hts gX8_read_X8_wrongPlace rfl rfl rfl (by decide +kernel) ⟨Nat.le_of_ble_eq_true rfl, Nat.le_of_ble_eq_true rfl⟩) (preV_ro (wc := [oM b st tp bt (nI ey) le en wo, aI cI (b 2) 4 (oF mm)]) hK hP [0, 1] rfl 8 0 rfl rfl rfl) rfl rfl hl.1 rfl (lv_room (Nat.le_of_ble_eq_true rfl)) dX8_read_4 ⟨Nat.zero_le _, Nat.zero_le _⟩) ?_
  refine va_put (D := G) (own := RX8) (ref := "SpotRowsModel") (ci := 8) (v := .int (nI (wnp so sz tr pl))) (ty := .int) (C := RX8) (T := TX8) (N := 23) hx hb hts hinX8 tyX8 tyX8_ok nmX8 hown hK.1 hP hD hS 0 rfl rfl 0 (by decide) fl73 (fun _ h9 => h9) rfl (by decide +kernel) rfl rfl (Nat.le_of_ble_eq_true rfl) dX8_read_7 (fun H locs hP hD hS => ?_)
  have hP : va_P G vwCl [oM b (nI (wnp so sz tr pl)) tp bt (nI ey) le en wo, aI cI (b 2) 4 (oF mm), aJ cJ (b 3) 240 mz] H := hP
  have hD : va_D A [oM b (nI (wnp so sz tr pl)) tp bt (nI ey) le en wo, aI cI (b 2) 4 (oF mm), aJ cJ (b 3) 240 mz] := hD
  refine lv_aload_n hx hb dX8_read_10 rfl (lv_at hl 0 rfl) ?_
  refine va_get (D := G) (own := RX8) (ref := "SpotRowsModel") (ci := 8) (v := .int (nI (wnp so sz tr pl))) (C := RX8) (T := TX8) (N := 23) hx hb hts hinX8 hown hK.1 hP 0 rfl rfl 0 (by decide) fl73 (fun _ h9 => h9) rfl dX8_read_11 ?_
  refine nv_if_le (tgt := 23) hx hb dX8_read_14 (by decide) (by exact Nat.lt_of_le_of_lt (wnp_le _ _ _ _) (by decide)) (fun c_14 => ?_) (fun c_14 => ?_)
  · obtain ⟨hw1, hw2, hw3⟩ := wnp_0 c_14
    obtain ⟨j_tr, h_tr, rfl⟩ := rg_ex hw1
    have e_tr := nn_nI (j := j_tr) (by omega)
    rw [e_tr] at hw2 hw3
    have h8 := ts j_tr
    obtain ⟨j_pl, h_pl, rfl⟩ := rg_ex hw3
    have e_pl := nn_nI (j := j_pl) (by omega)
    have mv := (hM j_tr h_tr).2 hw2
    refine lv_aload_n hx hb dX8_read_23 rfl (lv_at hl 0 rfl) ?_
    refine va_get (D := G) (own := RX8) (ref := "SpotRowsModel") (ci := 8) (v := .ref (b 3)) (C := RX8) (T := TX8) (N := 23) hx hb hts hinX8 hown hK.1 hP 0 rfl rfl 5 (by decide) fl20 (fun _ h9 => h9) rfl dX8_read_24 ?_
    refine lv_bipush (v := nI 60) hx hb dX8_read_27 (by decide) ?_
    refine lv_iload_n hx hb dX8_read_29 rfl (lv_at hl 1 rfl) ?_
    refine lv_imul hx hb dX8_read_30 ?_
    refine toi (pk_mul 60 j_tr) ?_
    refine lv_iload_n hx hb dX8_read_31 rfl (lv_at hl 2 rfl) ?_
    refine lv_iadd hx hb dX8_read_32 ?_
    refine toi (nI_add (60 * j_tr) j_pl) ?_
    refine ld_J hx hb hK hP 2 (k := 60 * j_tr + j_pl) rfl (by omega) (by decide) dX8_read_33 ?_
    refine tol (show (mz (60 * j_tr + j_pl)) = (z (j_tr * 60 + j_pl)) from mv.2.2 _ h_pl) ?_
    exact W.lret (v := z (j_tr * 60 + j_pl)) hx hb hr (fun zt ht zw => ⟨⟨_, (), rfl, (show z (j_tr * 60 + j_pl) = rRead so sz z (nI j_tr) (nI j_pl) from by first | (rw [rRead, if_pos c_14, e_tr, e_pl]; done) | (rw [rRead, if_neg (by omega)]; done)), by show va_P _ _ _ zt.heap; rw [ht]; exact hP⟩, by rw [hAe]; exact hS.F ht⟩) hS.2.2 dX8_read_34
  refine lv_ldc2 (own := RX8) (v := -1) hx hb hown (hts (.constantLong RX8 94 (-1)) (by decide +kernel)) dX8_read_17 ?_
  refine lv_goto (tgt := 34) hx hb dX8_read_20 (by decide) ?_
  exact W.lret (v := (-1)) hx hb hr (fun zt ht zw => ⟨⟨_, (), rfl, (show (-1) = rRead so sz z tr pl from by first | (rw [rRead, if_pos c_14, e_tr, e_pl]; done) | (rw [rRead, if_neg (by omega)]; done)), by show va_P _ _ _ zt.heap; rw [ht]; exact hP⟩, by rw [hAe]; exact hS.F ht⟩) hS.2.2 dX8_read_34

set_option maxHeartbeats 400000 in
set_option maxRecDepth 100000 in
theorem c_X8_eye (l : Launch) (G : va_G) (cI cJ : ClassId) (b : Nat → Nat) (st : Int32) (tp : Int64) (bt : Int64) (ey : Nat) (le : Int32) (en : Int32) (wo : Int32) (t : Nat → Nat) (gr : Nat → Int32) (sp : Nat → Int32) (hey : ey ≤ 8) (hz : TZ t ey) (hG : GM t ey gr sp) : Met l yX8_eye wsX8_eye ({ frames := 1, cells := 0, slots := 0, locals := 21 }) (rwP G cI cJ [.ref (b 0)] [oM b st tp bt (nI ey) le en wo, aI cI (b 4) 1920 gr]) (rwQi G [oM b st tp bt (nI ey) le en wo, aI cI (b 4) 1920 gr] (fun (r : Int32) (gr2 : (Nat → Int32)) => r = oI (rEye ey) ∧ GM t (eEye ey) gr2 sp) (fun (gr2 : (Nat → Int32)) => [oM b (nI (qEye ey)) tp bt (nI (eEye ey)) le en wo, aI cI (b 4) 1920 gr2])) 0 0 (ads [oM b st tp bt (nI ey) le en wo, aI cI (b 4) 1920 gr]) := by
  refine Met.ofW (cc := cX8_eye) (maxL := 2) (ret := (some .int)) (by decide) rfl ?_
  intro pg ev s mt args below meth cd s₁ B hml hv
  obtain ⟨rfl, hP, hD0, hK⟩ := hv
  have hx := B.exec
  have hb := B.bytes
  have hr := B.returns
  have hts := atoms_spec (ws := wsX8_eye) B.pre
  have hown : s.vm.findClass RX8 = some mt.cls := findClass_of_methodNamed B.named
  have hlocks := B.notSynchronized
  have hD := ads_self hD0
  generalize hAe : ads [oM b st tp bt (nI ey) le en wo, aI cI (b 4) 1920 gr] = A at hD ⊢
  have hS : va_S A s.heap s.heap [] := va_S.rf
  have hP : va_P G vwCl [oM b st tp bt (nI ey) le en wo, aI cI (b 4) 1920 gr] s.heap := hP
  have hinX8 := (show ∀ w ∈ u_ws RX8 TX8 23, w ∈ wsX8_eye by decide +kernel)
  have fl96 := hts (.fieldLink RX8 96 "SpotRowsModel" "eyes" "I") (by decide +kernel)
  have fl73 := hts (.fieldLink RX8 73 "SpotRowsModel" "status" "I") (by decide +kernel)
  have fl31 := hts (.fieldLink RX8 31 "SpotRowsModel" "groups" "[I") (by decide +kernel)
  have hl := lv_entry ([.ref (b 0)]) (n := 2) (Nat.le_of_ble_eq_true rfl)
  rw [lg_entry_eq]
  generalize (lg_sl ([.ref (b 0)]) ++ List.replicate (2 - (lg_sl ([.ref (b 0)])).length) Slot.unset).toArray = ls at hl ⊢
  have hl : lv_has ls 2 [(0, .ref (b 0))] := hl
  refine lv_aload_n hx hb dX8_eye_0 rfl (lv_at hl 0 rfl) ?_
  refine va_get (D := G) (own := RX8) (ref := "SpotRowsModel") (ci := 8) (v := .int (nI ey)) (C := RX8) (T := TX8) (N := 23) hx hb hts hinX8 hown hK.1 hP 0 rfl rfl 6 (by decide) fl96 (fun _ h9 => h9) rfl dX8_eye_1 ?_
  refine lv_bipush (v := nI 8) hx hb dX8_eye_4 (by decide) ?_
  refine nv_icmp_ne (tgt := 15) hx hb dX8_eye_6 (by decide) (by omega) (by omega) (fun c_6 => ?_) (fun c_6 => ?_)
  · refine lv_iconst (v := nI 0) hx hb dX8_eye_15 (by decide) ?_
    refine lv_istore_n (lv' := [(1, .int (nI 0)), (0, .ref (b 0))]) hx hb dX8_eye_16 rfl hl (by decide) rfl (fun ls hl => ?_)
    have lp_17 : ∀ (nf : Nat) (k : Nat), (k ≤ 240) → 240 - k < nf → ∀ (H : Heap) (locs : List Loc), va_P G vwCl [oM b st tp bt (nI ey) le en wo, aI cI (b 4) 1920 (fil gr (-1) (ey * 240) (ey * 240 + k))] H → va_D A [oM b st tp bt (nI ey) le en wo, aI cI (b 4) 1920 (fil gr (-1) (ey * 240) (ey * 240 + k))] → va_S A s.heap H locs → ∀ (ls : Array Slot), lv_has ls 2 [(0, .ref (b 0)), (1, .int (nI k))] → W pg l ev (headSpec wsX8_eye ({ frames := 1, cells := 0, slots := 0, locals := 21 })).room s mt ([.ref (b 0)] : List Value).toArray below meth cd H locs 0 0 (MQ below (rwQi G [oM b st tp bt (nI ey) le en wo, aI cI (b 4) 1920 gr] (fun (r : Int32) (gr2 : (Nat → Int32)) => r = oI (rEye ey) ∧ GM t (eEye ey) gr2 sp) (fun (gr2 : (Nat → Int32)) => [oM b (nI (qEye ey)) tp bt (nI (eEye ey)) le en wo, aI cI (b 4) 1920 gr2])) ([.ref (b 0)] : List Value).toArray s 0 0 A) (F0 mt 17 ls []) := by
      intro nf
      induction nf with
      | zero => intro k hk hfu; exact absurd hfu (Nat.not_lt_zero _)
      | succ nf ih_17 =>
        intro k hk hfu H locs hP hD hS ls hl
        refine lv_iload_n hx hb dX8_eye_17 rfl (lv_at hl 1 rfl) ?_
        refine lv_sipush (v := nI 240) hx hb dX8_eye_18 (by decide) ?_
        refine nv_icmp_ge (tgt := 44) hx hb dX8_eye_21 (by decide) (by omega) (by omega) (fun c_21 => ?_) (fun c_21 => ?_)
        · refine lv_aload_n hx hb dX8_eye_44 rfl (lv_at hl 0 rfl) ?_
          refine lv_dup hx hb dX8_eye_45 rfl ?_
          refine va_get (D := G) (own := RX8) (ref := "SpotRowsModel") (ci := 8) (v := .int (nI ey)) (C := RX8) (T := TX8) (N := 23) hx hb hts hinX8 hown hK.1 hP 0 rfl rfl 6 (by decide) fl96 (fun _ h9 => h9) rfl dX8_eye_46 ?_
          refine lv_iconst (v := nI 1) hx hb dX8_eye_49 (by decide) ?_
          refine lv_iadd hx hb dX8_eye_50 ?_
          refine toi (nI_add ey 1) ?_
          refine va_put (D := G) (own := RX8) (ref := "SpotRowsModel") (ci := 8) (v := .int (nI (ey + 1))) (ty := .int) (C := RX8) (T := TX8) (N := 23) hx hb hts hinX8 tyX8 tyX8_ok nmX8 hown hK.1 hP hD hS 0 rfl rfl 6 (by decide) fl96 (fun _ h9 => h9) rfl (by decide +kernel) rfl rfl (Nat.le_of_ble_eq_true rfl) dX8_eye_51 (fun H locs hP hD hS => ?_)
          have hP : va_P G vwCl [oM b st tp bt (nI (ey + 1)) le en wo, aI cI (b 4) 1920 (fil gr (-1) (ey * 240) (ey * 240 + k))] H := hP
          have hD : va_D A [oM b st tp bt (nI (ey + 1)) le en wo, aI cI (b 4) 1920 (fil gr (-1) (ey * 240) (ey * 240 + k))] := hD
          refine lv_aload_n hx hb dX8_eye_54 rfl (lv_at hl 0 rfl) ?_
          refine lv_iconst (v := nI 0) hx hb dX8_eye_55 (by decide) ?_
          refine va_put (D := G) (own := RX8) (ref := "SpotRowsModel") (ci := 8) (v := .int (nI 0)) (ty := .int) (C := RX8) (T := TX8) (N := 23) hx hb hts hinX8 tyX8 tyX8_ok nmX8 hown hK.1 hP hD hS 0 rfl rfl 0 (by decide) fl73 (fun _ h9 => h9) rfl (by decide +kernel) rfl rfl (Nat.le_of_ble_eq_true rfl) dX8_eye_56 (fun H locs hP hD hS => ?_)
          have hP : va_P G vwCl [oM b (nI 0) tp bt (nI (ey + 1)) le en wo, aI cI (b 4) 1920 (fil gr (-1) (ey * 240) (ey * 240 + k))] H := hP
          have hD : va_D A [oM b (nI 0) tp bt (nI (ey + 1)) le en wo, aI cI (b 4) 1920 (fil gr (-1) (ey * 240) (ey * 240 + k))] := hD
          refine lv_aload_n hx hb dX8_eye_59 rfl (lv_at hl 0 rfl) ?_
          refine va_get (D := G) (own := RX8) (ref := "SpotRowsModel") (ci := 8) (v := .int (nI (ey + 1))) (C := RX8) (T := TX8) (N := 23) hx hb hts hinX8 hown hK.1 hP 0 rfl rfl 6 (by decide) fl96 (fun _ h9 => h9) rfl dX8_eye_60 ?_
          refine lv_iconst (v := nI 1) hx hb dX8_eye_63 (by decide) ?_
          refine lv_isub hx hb dX8_eye_64 ?_
          refine toi (pk_sub (a := (ey + 1)) (b := 1) (by omega)) ?_
          have hP : va_P G vwCl [oM b (nI (qEye ey)) tp bt (nI (eEye ey)) le en wo, aI cI (b 4) 1920 (fil gr (-1) (ey * 240) (ey * 240 + k))] H := by
            have ew : ([oM b (nI 0) tp bt (nI (ey + 1)) le en wo, aI cI (b 4) 1920 (fil gr (-1) (ey * 240) (ey * 240 + k))] : va_W) = [oM b (nI (qEye ey)) tp bt (nI (eEye ey)) le en wo, aI cI (b 4) 1920 (fil gr (-1) (ey * 240) (ey * 240 + k))] := (wvC (Eq.trans (congrArg (fun zz => oM b zz tp bt (nI (ey + 1)) le en wo) (show nI 0 = nI (qEye ey) from (congrArg nI (show 0 = (qEye ey) from by simp only [qEye, eEye, rEye]; first | (rw [if_pos (by omega)]; done) | (rw [if_neg (by omega)]; omega) | (rw [if_neg (by omega)]; done) | (rw [if_pos (by omega)]; omega))))) (congrArg (fun zz => oM b (nI (qEye ey)) tp bt zz le en wo) (show nI (ey + 1) = nI (eEye ey) from (congrArg nI (show (ey + 1) = (eEye ey) from by simp only [qEye, eEye, rEye]; first | (rw [if_pos (by omega)]; done) | (rw [if_neg (by omega)]; omega) | (rw [if_neg (by omega)]; done) | (rw [if_pos (by omega)]; omega)))))) (wvC rfl rfl))
            rw [← ew]; exact hP
          exact W.iret (v := nI (ey + 1 - 1)) hx hb hr (fun zt ht zw => ⟨⟨_, fil gr (-1) (ey * 240) (ey * 240 + k), rfl, ⟨((nI_o (ey + 1 - 1)).trans (congrArg oI (show (ey + 1 - 1) + 1 = (rEye ey) from by simp only [qEye, eEye, rEye]; first | (rw [if_pos (by omega)]; done) | (rw [if_neg (by omega)]; omega) | (rw [if_neg (by omega)]; done) | (rw [if_pos (by omega)]; omega)))), (by rw [eEye, if_pos (by omega), show k = 240 from by omega]; exact GM_eye hG hz (by omega))⟩, by show va_P _ _ _ zt.heap; rw [ht]; exact hP⟩, by rw [hAe]; exact hS.F ht⟩) hS.2.2 dX8_eye_65
        refine lv_aload_n hx hb dX8_eye_24 rfl (lv_at hl 0 rfl) ?_
        refine va_get (D := G) (own := RX8) (ref := "SpotRowsModel") (ci := 8) (v := .ref (b 4)) (C := RX8) (T := TX8) (N := 23) hx hb hts hinX8 hown hK.1 hP 0 rfl rfl 9 (by decide) fl31 (fun _ h9 => h9) rfl dX8_eye_25 ?_
        refine lv_aload_n hx hb dX8_eye_28 rfl (lv_at hl 0 rfl) ?_
        refine va_get (D := G) (own := RX8) (ref := "SpotRowsModel") (ci := 8) (v := .int (nI ey)) (C := RX8) (T := TX8) (N := 23) hx hb hts hinX8 hown hK.1 hP 0 rfl rfl 6 (by decide) fl96 (fun _ h9 => h9) rfl dX8_eye_29 ?_
        refine lv_iload_n hx hb dX8_eye_32 rfl (lv_at hl 1 rfl) ?_
        refine cro_i (va_runS (As := [.int (nI ey), .int (nI k)]) (rest := [.ref (b 4)]) ⟨hx, hb, hml, hown, hts⟩ (c_X8_at l G cI cJ (x := ey) (d := k) ) (va_cwS 2 hts gX8_eye_X8_at rfl rfl rfl (by decide +kernel) ⟨Nat.le_of_ble_eq_true rfl, Nat.le_of_ble_eq_true rfl⟩) (preS_ro (wc := []) hK hP [] rfl) rfl rfl hl.1 rfl (lv_room (Nat.le_of_ble_eq_true rfl)) dX8_eye_33 ⟨Nat.zero_le _, Nat.zero_le _⟩) ?_
        refine lv_iconst (v := (-1)) hx hb dX8_eye_36 (by decide) ?_
        refine st_I hx hb hK hP hD hS 1 (k := ey * 240 + k) rfl (by omega) (by decide) dX8_eye_37 (fun H locs hP hD hS => ?_)
        have hP : va_P G vwCl [oM b st tp bt (nI ey) le en wo, aI cI (b 4) 1920 (upN (fil gr (-1) (ey * 240) (ey * 240 + k)) (ey * 240 + k) (-1))] H := hP
        have hD : va_D A [oM b st tp bt (nI ey) le en wo, aI cI (b 4) 1920 (upN (fil gr (-1) (ey * 240) (ey * 240 + k)) (ey * 240 + k) (-1))] := hD
        refine lv_iinc (v := nI (k + 1)) (lv' := [(1, .int (nI (k + 1))), (0, .ref (b 0))]) hx hb dX8_eye_38 hl (k := 1) rfl (nI_add k 1) (by decide) rfl (fun ls hl => ?_)
        refine lv_goto (tgt := 17) hx hb dX8_eye_41 (by decide) ?_
        have hw_17 : ([oM b st tp bt (nI ey) le en wo, aI cI (b 4) 1920 (upN (fil gr (-1) (ey * 240) (ey * 240 + k)) (ey * 240 + k) (-1))] : va_W) = [oM b st tp bt (nI ey) le en wo, aI cI (b 4) 1920 (fil gr (-1) (ey * 240) (ey * 240 + (k + 1)))] := (wvC rfl (wvC (congrArg (fun z => aI cI (b 4) 1920 z) (show upN (fil gr (-1) (ey * 240) (ey * 240 + k)) (ey * 240 + k) (-1) = fil gr (-1) (ey * 240) (ey * 240 + (k + 1)) from by exact fil_s gr (-1) (by omega))) rfl))
        exact ih_17 (k + 1) (by first | rfl | omega | (simp_all; done)) (by omega) H locs (hw_17 ▸ hP) (hw_17 ▸ hD) hS ls (lvcv (l := [(0, .ref (b 0)), (1, .int (nI (k + 1)))]) (lv_sub hl [1, 0] rfl) (lvC (lvC rfl)))
    have hw_17 : ([oM b st tp bt (nI ey) le en wo, aI cI (b 4) 1920 gr] : va_W) = [oM b st tp bt (nI ey) le en wo, aI cI (b 4) 1920 (fil gr (-1) (ey * 240) (ey * 240 + 0))] := (wvC rfl (wvC (congrArg (fun z => aI cI (b 4) 1920 z) (show gr = fil gr (-1) (ey * 240) (ey * 240 + 0) from by exact (fil_0 gr (-1) (ey * 240)).symm)) rfl))
    exact lp_17 (240 - 0 + 1) 0 (by first | rfl | omega | (simp_all; done)) (by omega) _ _ (hw_17 ▸ hP) (hw_17 ▸ hD) hS ls (lvcv (l := [(0, .ref (b 0)), (1, .int (nI 0))]) (lv_sub hl [1, 0] rfl) (lvC (lvC rfl)))
  refine lv_aload_n hx hb dX8_eye_9 rfl (lv_at hl 0 rfl) ?_
  refine lv_iconst (v := nI 4) hx hb dX8_eye_10 (by decide) ?_
  refine crw_i (va_runV (As := [.int (nI 4)]) (rest := []) ⟨hx, hb, hml, hown, hts⟩ (c_X8_refuse l G cI cJ (b := b) (st := st) (tp := tp) (bt := bt) (ey := ey) (le := le) (en := en) (wo := wo) (w := nI 4) ) (cwV 1 hts gX8_eye_X8_refuse rfl rfl rfl (by decide +kernel) ⟨Nat.le_of_ble_eq_true rfl, Nat.le_of_ble_eq_true rfl⟩) (preV_rw (wc := [oM b st tp bt (nI ey) le en wo]) hK hP hD [0] rfl rfl 8 0 rfl rfl rfl) rfl rfl hl.1 rfl (lv_room (Nat.le_of_ble_eq_true rfl)) dX8_eye_11 ⟨Nat.zero_le _, Nat.zero_le _⟩) hP hD hS [0] rfl [b 0] (fun u => rfl) rfl (fun r_11 u_ H locs hw_11 hP hD hS => ?_)
  have hP : va_P G vwCl [oM b (nI 4) tp bt (nI ey) le en wo, aI cI (b 4) 1920 gr] H := hP
  have hD : va_D A [oM b (nI 4) tp bt (nI ey) le en wo, aI cI (b 4) 1920 gr] := hD
  refine toi hw_11 ?_
  have hP : va_P G vwCl [oM b (nI (qEye ey)) tp bt (nI (eEye ey)) le en wo, aI cI (b 4) 1920 gr] H := by
    have ew : ([oM b (nI 4) tp bt (nI ey) le en wo, aI cI (b 4) 1920 gr] : va_W) = [oM b (nI (qEye ey)) tp bt (nI (eEye ey)) le en wo, aI cI (b 4) 1920 gr] := (wvC (Eq.trans (congrArg (fun zz => oM b zz tp bt (nI ey) le en wo) (show nI 4 = nI (qEye ey) from (congrArg nI (show 4 = (qEye ey) from by simp only [qEye, eEye, rEye]; first | (rw [if_pos (by omega)]; done) | (rw [if_neg (by omega)]; omega) | (rw [if_neg (by omega)]; done) | (rw [if_pos (by omega)]; omega))))) (congrArg (fun zz => oM b (nI (qEye ey)) tp bt zz le en wo) (show nI ey = nI (eEye ey) from (congrArg nI (show ey = (eEye ey) from by simp only [qEye, eEye, rEye]; first | (rw [if_pos (by omega)]; done) | (rw [if_neg (by omega)]; omega) | (rw [if_neg (by omega)]; done) | (rw [if_pos (by omega)]; omega)))))) (wvC rfl rfl))
    rw [← ew]; exact hP
  exact W.iret (v := (-1)) hx hb hr (fun zt ht zw => ⟨⟨_, gr, rfl, ⟨(m1_o.trans (congrArg oI (show 0 = (rEye ey) from by simp only [qEye, eEye, rEye]; first | (rw [if_pos (by omega)]; done) | (rw [if_neg (by omega)]; omega) | (rw [if_neg (by omega)]; done) | (rw [if_pos (by omega)]; omega)))), (by rw [eEye, if_neg (by omega)]; exact hG)⟩, by show va_P _ _ _ zt.heap; rw [ht]; exact hP⟩, by rw [hAe]; exact hS.F ht⟩) hS.2.2 dX8_eye_14

set_option maxHeartbeats 400000 in
set_option maxRecDepth 100000 in
theorem c_X8_areTold (l : Launch) (G : va_G) (cI cJ : ClassId) (g : Int64) (k : Int64)  : Met l yX8_areTold wsX8_areTold ({ frames := 0, cells := 0, slots := 0, locals := 0 }) (roP G cI cJ [.long g, .long k] []) (vp_Si (fun r => r = bi (atold g k))) 0 0 (fun _ => False) := by
  refine Met.ofW (cc := cX8_areTold) (maxL := 4) (ret := (some .boolean)) (by decide) rfl ?_
  intro pg ev s mt args below meth cd s₁ B hml hv
  obtain ⟨rfl, hP, hK⟩ := hv
  have hx := B.exec
  have hb := B.bytes
  have hr := B.returns
  have hts := atoms_spec (ws := wsX8_areTold) B.pre
  have hown : s.vm.findClass RX8 = some mt.cls := findClass_of_methodNamed B.named
  have hlocks := B.notSynchronized
  have hP : va_P G vwCl [] s.heap := hP
  have hl := lv_entry ([.long g, .long k]) (n := 4) (Nat.le_of_ble_eq_true rfl)
  rw [lg_entry_eq]
  generalize (lg_sl ([.long g, .long k]) ++ List.replicate (4 - (lg_sl ([.long g, .long k])).length) Slot.unset).toArray = ls at hl ⊢
  have hl : lv_has ls 4 [(0, .long g), (2, .long k)] := hl
  refine lv_lload_n hx hb dX8_areTold_0 rfl (lv_at hl 0 rfl) ?_
  refine lv_lconst (v := lN 0) hx hb dX8_areTold_1 (by decide) ?_
  refine rl_if_lt (tgt := 32) hx hb dX8_areTold_2 dX8_areTold_3 (by decide) (fun c_3 => ?_) (fun c_3 => ?_)
  · refine lv_iconst (v := nI 0) hx hb dX8_areTold_32 (by decide) ?_
    exact W.zret (v := nI 0) hx hb hr rfl (fun zt ht zw => ⟨_, rfl, (show nI 0 = bi (atold g k) from (bi_f (by (simp only [fa_lt64_, fa_le64_, lN_toInt (show (0 : Nat) < 2 ^ 31 by decide), lN_toInt (show (20 : Nat) < 2 ^ 31 by decide), lN_toInt (show (200 : Nat) < 2 ^ 31 by decide)] at *); omega)).symm), ht⟩) (fun q hq => absurd hq List.not_mem_nil) dX8_areTold_33
  refine lv_lload_n hx hb dX8_areTold_6 rfl (lv_at hl 0 rfl) ?_
  refine lv_ldc2 (own := RX8) (v := 20) hx hb hown (hts (.constantLong RX8 106 (20)) (by decide +kernel)) dX8_areTold_7 ?_
  refine tol (show (20 : Int64) = lN 20 by decide) ?_
  refine rl_if_gt (tgt := 32) hx hb dX8_areTold_10 dX8_areTold_11 (by decide) (fun c_11 => ?_) (fun c_11 => ?_)
  · refine lv_iconst (v := nI 0) hx hb dX8_areTold_32 (by decide) ?_
    exact W.zret (v := nI 0) hx hb hr rfl (fun zt ht zw => ⟨_, rfl, (show nI 0 = bi (atold g k) from (bi_f (by (simp only [fa_lt64_, fa_le64_, lN_toInt (show (0 : Nat) < 2 ^ 31 by decide), lN_toInt (show (20 : Nat) < 2 ^ 31 by decide), lN_toInt (show (200 : Nat) < 2 ^ 31 by decide)] at *); omega)).symm), ht⟩) (fun q hq => absurd hq List.not_mem_nil) dX8_areTold_33
  refine lv_lload_n hx hb dX8_areTold_14 rfl (lv_at hl 1 rfl) ?_
  refine lv_lload_n hx hb dX8_areTold_15 rfl (lv_at hl 0 rfl) ?_
  refine rl_if_lt (tgt := 32) hx hb dX8_areTold_16 dX8_areTold_17 (by decide) (fun c_17 => ?_) (fun c_17 => ?_)
  · refine lv_iconst (v := nI 0) hx hb dX8_areTold_32 (by decide) ?_
    exact W.zret (v := nI 0) hx hb hr rfl (fun zt ht zw => ⟨_, rfl, (show nI 0 = bi (atold g k) from (bi_f (by (simp only [fa_lt64_, fa_le64_, lN_toInt (show (0 : Nat) < 2 ^ 31 by decide), lN_toInt (show (20 : Nat) < 2 ^ 31 by decide), lN_toInt (show (200 : Nat) < 2 ^ 31 by decide)] at *); omega)).symm), ht⟩) (fun q hq => absurd hq List.not_mem_nil) dX8_areTold_33
  refine lv_lload_n hx hb dX8_areTold_20 rfl (lv_at hl 1 rfl) ?_
  refine lv_ldc2 (own := RX8) (v := 200) hx hb hown (hts (.constantLong RX8 108 (200)) (by decide +kernel)) dX8_areTold_21 ?_
  refine tol (show (200 : Int64) = lN 200 by decide) ?_
  refine rl_if_gt (tgt := 32) hx hb dX8_areTold_24 dX8_areTold_25 (by decide) (fun c_25 => ?_) (fun c_25 => ?_)
  · refine lv_iconst (v := nI 0) hx hb dX8_areTold_32 (by decide) ?_
    exact W.zret (v := nI 0) hx hb hr rfl (fun zt ht zw => ⟨_, rfl, (show nI 0 = bi (atold g k) from (bi_f (by (simp only [fa_lt64_, fa_le64_, lN_toInt (show (0 : Nat) < 2 ^ 31 by decide), lN_toInt (show (20 : Nat) < 2 ^ 31 by decide), lN_toInt (show (200 : Nat) < 2 ^ 31 by decide)] at *); omega)).symm), ht⟩) (fun q hq => absurd hq List.not_mem_nil) dX8_areTold_33
  refine lv_iconst (v := nI 1) hx hb dX8_areTold_28 (by decide) ?_
  refine lv_goto (tgt := 33) hx hb dX8_areTold_29 (by decide) ?_
  exact W.zret (v := nI 1) hx hb hr rfl (fun zt ht zw => ⟨_, rfl, (show nI 1 = bi (atold g k) from (bi_t (by (simp only [fa_lt64_, fa_le64_, lN_toInt (show (0 : Nat) < 2 ^ 31 by decide), lN_toInt (show (20 : Nat) < 2 ^ 31 by decide), lN_toInt (show (200 : Nat) < 2 ^ 31 by decide)] at *); omega)).symm), ht⟩) (fun q hq => absurd hq List.not_mem_nil) dX8_areTold_33

set_option maxHeartbeats 400000 in
set_option maxRecDepth 100000 in
theorem c_X8_tell (l : Launch) (G : va_G) (cI cJ : ClassId) (b : Nat → Nat) (st : Int32) (tp : Int64) (bt : Int64) (ey : Nat) (le : Int32) (en : Int32) (wo : Int32) (t : Nat → Nat) (gr : Nat → Int32) (sp : Nat → Int32) (x : Int32) (d : Int32) (g : Int32) (k : Int32) (hey : ey ≤ 8) (hG : GM t ey gr sp) : Met l yX8_tell wsX8_tell ({ frames := 1, cells := 0, slots := 0, locals := 23 }) (rwP G cI cJ [.ref (b 0), .int x, .int d, .int g, .int k] [oM b st tp bt (nI ey) le en wo, aI cI (b 4) 1920 gr, aI cI (b 5) 1920 sp]) (rwQi G [oM b st tp bt (nI ey) le en wo, aI cI (b 4) 1920 gr, aI cI (b 5) 1920 sp] (fun (r : Int32) (u : (Nat → Int32) × (Nat → Int32)) => match u with | (gr2, sp2) => r = bi (qTell ey x d g k = 0) ∧ GM (tTell t ey x d g k) ey gr2 sp2) (fun (u : (Nat → Int32) × (Nat → Int32)) => match u with | (gr2, sp2) => [oM b (nI (qTell ey x d g k)) tp bt (nI ey) le en wo, aI cI (b 4) 1920 gr2, aI cI (b 5) 1920 sp2])) 0 0 (ads [oM b st tp bt (nI ey) le en wo, aI cI (b 4) 1920 gr, aI cI (b 5) 1920 sp]) := by
  refine Met.ofW (cc := cX8_tell) (maxL := 5) (ret := (some .boolean)) (by decide) rfl ?_
  intro pg ev s mt args below meth cd s₁ B hml hv
  obtain ⟨rfl, hP, hD0, hK⟩ := hv
  have hx := B.exec
  have hb := B.bytes
  have hr := B.returns
  have hts := atoms_spec (ws := wsX8_tell) B.pre
  have hown : s.vm.findClass RX8 = some mt.cls := findClass_of_methodNamed B.named
  have hlocks := B.notSynchronized
  have hD := ads_self hD0
  generalize hAe : ads [oM b st tp bt (nI ey) le en wo, aI cI (b 4) 1920 gr, aI cI (b 5) 1920 sp] = A at hD ⊢
  have hS : va_S A s.heap s.heap [] := va_S.rf
  have hP : va_P G vwCl [oM b st tp bt (nI ey) le en wo, aI cI (b 4) 1920 gr, aI cI (b 5) 1920 sp] s.heap := hP
  have hinX8 := (show ∀ w ∈ u_ws RX8 TX8 23, w ∈ wsX8_tell by decide +kernel)
  have fl31 := hts (.fieldLink RX8 31 "SpotRowsModel" "groups" "[I") (by decide +kernel)
  have fl34 := hts (.fieldLink RX8 34 "SpotRowsModel" "spots" "[I") (by decide +kernel)
  have hl := lv_entry ([.ref (b 0), .int x, .int d, .int g, .int k]) (n := 5) (Nat.le_of_ble_eq_true rfl)
  rw [lg_entry_eq]
  generalize (lg_sl ([.ref (b 0), .int x, .int d, .int g, .int k]) ++ List.replicate (5 - (lg_sl ([.ref (b 0), .int x, .int d, .int g, .int k])).length) Slot.unset).toArray = ls at hl ⊢
  have hl : lv_has ls 5 [(0, .ref (b 0)), (1, .int x), (2, .int d), (3, .int g), (4, .int k)] := hl
  refine lv_aload_n hx hb dX8_tell_0 rfl (lv_at hl 0 rfl) ?_
  refine lv_iload_n hx hb dX8_tell_1 rfl (lv_at hl 1 rfl) ?_
  refine cro_i (va_runV (As := [.int x]) (rest := []) ⟨hx, hb, hml, hown, hts⟩ (c_X8_isEye l G cI cJ (b := b) (st := st) (tp := tp) (bt := bt) (ey := ey) (le := le) (en := en) (wo := wo) (x := x) (hey := by first | assumption | omega)) (cwV 1 hts gX8_tell_X8_isEye rfl rfl rfl (by decide +kernel) ⟨Nat.le_of_ble_eq_true rfl, Nat.le_of_ble_eq_true rfl⟩) (preV_ro (wc := [oM b st tp bt (nI ey) le en wo]) hK hP [0] rfl 8 0 rfl rfl rfl) rfl rfl hl.1 rfl (lv_room (Nat.le_of_ble_eq_true rfl)) dX8_tell_2 ⟨Nat.zero_le _, Nat.zero_le _⟩) ?_
  refine nb_if_eq (tgt := 26) hx hb dX8_tell_5 (by decide) (fun c_5 => ?_) (fun c_5 => ?_)
  · refine lv_aload_n hx hb dX8_tell_26 rfl (lv_at hl 0 rfl) ?_
    refine lv_iconst (v := nI 1) hx hb dX8_tell_27 (by decide) ?_
    refine crw_i (va_runV (As := [.int (nI 1)]) (rest := []) ⟨hx, hb, hml, hown, hts⟩ (c_X8_is l G cI cJ (b := b) (st := st) (tp := tp) (bt := bt) (ey := ey) (le := le) (en := en) (wo := wo) (w := 1) (hw := by first | assumption | omega)) (cwV 1 hts gX8_tell_X8_is rfl rfl rfl (by decide +kernel) ⟨Nat.le_of_ble_eq_true rfl, Nat.le_of_ble_eq_true rfl⟩) (preV_rw (wc := [oM b st tp bt (nI ey) le en wo]) hK hP hD [0] rfl rfl 8 0 rfl rfl rfl) rfl rfl hl.1 rfl (lv_room (Nat.le_of_ble_eq_true rfl)) dX8_tell_28 ⟨Nat.zero_le _, Nat.zero_le _⟩) hP hD hS [0] rfl [b 0] (fun u => rfl) rfl (fun r_28 u_ H locs hw_28 hP hD hS => ?_)
    have hP : va_P G vwCl [oM b (nI 1) tp bt (nI ey) le en wo, aI cI (b 4) 1920 gr, aI cI (b 5) 1920 sp] H := hP
    have hD : va_D A [oM b (nI 1) tp bt (nI ey) le en wo, aI cI (b 4) 1920 gr, aI cI (b 5) 1920 sp] := hD
    refine toi hw_28 ?_
    have hP : va_P G vwCl [oM b (nI (qTell ey x d g k)) tp bt (nI ey) le en wo, aI cI (b 4) 1920 gr, aI cI (b 5) 1920 sp] H := by
      have ew : ([oM b (nI 1) tp bt (nI ey) le en wo, aI cI (b 4) 1920 gr, aI cI (b 5) 1920 sp] : va_W) = [oM b (nI (qTell ey x d g k)) tp bt (nI ey) le en wo, aI cI (b 4) 1920 gr, aI cI (b 5) 1920 sp] := (wvC (congrArg (fun zz => oM b zz tp bt (nI ey) le en wo) (show nI 1 = nI (qTell ey x d g k) from (congrArg nI (show 1 = (qTell ey x d g k) from by first | (have k9 : ¬ okTell ey x d g k := (fun h => c_5 h.1); simp [qTell, cif_neg k9]; done) | (have k9 : ¬ okTell ey (nI j_x) d g k := (fun h => c_12 h.2.1); simp [qTell, cif_neg k9]; done) | (have k9 : ¬ okTell ey (nI j_x) (nI j_d) g k := (fun h => c_23 (atold_i.mpr h.2.2)); simp [qTell, cif_neg k9]; done))))) (wvC rfl (wvC rfl rfl)))
      rw [← ew]; exact hP
    exact W.zret (v := bi (1 = 0)) hx hb hr bi_nar (fun zt ht zw => ⟨⟨_, (gr, sp), rfl, ⟨(bi_cong (show 1 = 0 ↔ qTell ey x d g k = 0 from by first | (have k9 : ¬ okTell ey x d g k := (fun h => c_5 h.1); simp [qTell, cif_neg k9]; done) | (have k9 : ¬ okTell ey (nI j_x) d g k := (fun h => c_12 h.2.1); simp [qTell, cif_neg k9]; done) | (have k9 : ¬ okTell ey (nI j_x) (nI j_d) g k := (fun h => c_23 (atold_i.mpr h.2.2)); simp [qTell, cif_neg k9]; done))), (by first | (have k9 : ¬ okTell ey x d g k := (fun h => c_5 h.1); rw [tTell, cif_neg k9]; exact hG) | (have k9 : ¬ okTell ey (nI j_x) d g k := (fun h => c_12 h.2.1); rw [tTell, cif_neg k9]; exact hG) | (have k9 : ¬ okTell ey (nI j_x) (nI j_d) g k := (fun h => c_23 (atold_i.mpr h.2.2)); rw [tTell, cif_neg k9]; exact hG))⟩, by show va_P _ _ _ zt.heap; rw [ht]; exact hP⟩, by rw [hAe]; exact hS.F ht⟩) hS.2.2 dX8_tell_31
  obtain ⟨j_x, h_x, rfl⟩ := rg_ex c_5
  have e_x := nn_nI (j := j_x) (by omega)
  refine lv_iload_n hx hb dX8_tell_8 rfl (lv_at hl 2 rfl) ?_
  refine cro_i (va_runS (As := [.int d]) (rest := []) ⟨hx, hb, hml, hown, hts⟩ (c_X8_isDay l G cI cJ (x := d) ) (va_cwS 1 hts gX8_tell_X8_isDay rfl rfl rfl (by decide +kernel) ⟨Nat.le_of_ble_eq_true rfl, Nat.le_of_ble_eq_true rfl⟩) (preS_ro (wc := []) hK hP [] rfl) rfl rfl hl.1 rfl (lv_room (Nat.le_of_ble_eq_true rfl)) dX8_tell_9 ⟨Nat.zero_le _, Nat.zero_le _⟩) ?_
  refine nb_if_eq (tgt := 26) hx hb dX8_tell_12 (by decide) (fun c_12 => ?_) (fun c_12 => ?_)
  · refine lv_aload_n hx hb dX8_tell_26 rfl (lv_at hl 0 rfl) ?_
    refine lv_iconst (v := nI 1) hx hb dX8_tell_27 (by decide) ?_
    refine crw_i (va_runV (As := [.int (nI 1)]) (rest := []) ⟨hx, hb, hml, hown, hts⟩ (c_X8_is l G cI cJ (b := b) (st := st) (tp := tp) (bt := bt) (ey := ey) (le := le) (en := en) (wo := wo) (w := 1) (hw := by first | assumption | omega)) (cwV 1 hts gX8_tell_X8_is rfl rfl rfl (by decide +kernel) ⟨Nat.le_of_ble_eq_true rfl, Nat.le_of_ble_eq_true rfl⟩) (preV_rw (wc := [oM b st tp bt (nI ey) le en wo]) hK hP hD [0] rfl rfl 8 0 rfl rfl rfl) rfl rfl hl.1 rfl (lv_room (Nat.le_of_ble_eq_true rfl)) dX8_tell_28 ⟨Nat.zero_le _, Nat.zero_le _⟩) hP hD hS [0] rfl [b 0] (fun u => rfl) rfl (fun r_28 u_ H locs hw_28 hP hD hS => ?_)
    have hP : va_P G vwCl [oM b (nI 1) tp bt (nI ey) le en wo, aI cI (b 4) 1920 gr, aI cI (b 5) 1920 sp] H := hP
    have hD : va_D A [oM b (nI 1) tp bt (nI ey) le en wo, aI cI (b 4) 1920 gr, aI cI (b 5) 1920 sp] := hD
    refine toi hw_28 ?_
    have hP : va_P G vwCl [oM b (nI (qTell ey (nI j_x) d g k)) tp bt (nI ey) le en wo, aI cI (b 4) 1920 gr, aI cI (b 5) 1920 sp] H := by
      have ew : ([oM b (nI 1) tp bt (nI ey) le en wo, aI cI (b 4) 1920 gr, aI cI (b 5) 1920 sp] : va_W) = [oM b (nI (qTell ey (nI j_x) d g k)) tp bt (nI ey) le en wo, aI cI (b 4) 1920 gr, aI cI (b 5) 1920 sp] := (wvC (congrArg (fun zz => oM b zz tp bt (nI ey) le en wo) (show nI 1 = nI (qTell ey (nI j_x) d g k) from (congrArg nI (show 1 = (qTell ey (nI j_x) d g k) from by first | (have k9 : ¬ okTell ey x d g k := (fun h => c_5 h.1); simp [qTell, cif_neg k9]; done) | (have k9 : ¬ okTell ey (nI j_x) d g k := (fun h => c_12 h.2.1); simp [qTell, cif_neg k9]; done) | (have k9 : ¬ okTell ey (nI j_x) (nI j_d) g k := (fun h => c_23 (atold_i.mpr h.2.2)); simp [qTell, cif_neg k9]; done))))) (wvC rfl (wvC rfl rfl)))
      rw [← ew]; exact hP
    exact W.zret (v := bi (1 = 0)) hx hb hr bi_nar (fun zt ht zw => ⟨⟨_, (gr, sp), rfl, ⟨(bi_cong (show 1 = 0 ↔ qTell ey (nI j_x) d g k = 0 from by first | (have k9 : ¬ okTell ey x d g k := (fun h => c_5 h.1); simp [qTell, cif_neg k9]; done) | (have k9 : ¬ okTell ey (nI j_x) d g k := (fun h => c_12 h.2.1); simp [qTell, cif_neg k9]; done) | (have k9 : ¬ okTell ey (nI j_x) (nI j_d) g k := (fun h => c_23 (atold_i.mpr h.2.2)); simp [qTell, cif_neg k9]; done))), (by first | (have k9 : ¬ okTell ey x d g k := (fun h => c_5 h.1); rw [tTell, cif_neg k9]; exact hG) | (have k9 : ¬ okTell ey (nI j_x) d g k := (fun h => c_12 h.2.1); rw [tTell, cif_neg k9]; exact hG) | (have k9 : ¬ okTell ey (nI j_x) (nI j_d) g k := (fun h => c_23 (atold_i.mpr h.2.2)); rw [tTell, cif_neg k9]; exact hG))⟩, by show va_P _ _ _ zt.heap; rw [ht]; exact hP⟩, by rw [hAe]; exact hS.F ht⟩) hS.2.2 dX8_tell_31
  obtain ⟨j_d, h_d, rfl⟩ := rg_ex c_12
  have e_d := nn_nI (j := j_d) (by omega)
  refine lv_iload_n hx hb dX8_tell_15 rfl (lv_at hl 3 rfl) ?_
  refine lv_i2l (v := g.toInt64) hx hb dX8_tell_16 rfl ?_
  refine lv_iload hx hb dX8_tell_17 (lv_at hl 4 rfl) ?_
  refine lv_i2l (v := k.toInt64) hx hb dX8_tell_19 rfl ?_
  refine cro_i (va_runS (As := [.long g.toInt64, .long k.toInt64]) (rest := []) ⟨hx, hb, hml, hown, hts⟩ (c_X8_areTold l G cI cJ (g := g.toInt64) (k := k.toInt64) ) (va_cwS 2 hts gX8_tell_X8_areTold rfl rfl rfl (by decide +kernel) ⟨Nat.le_of_ble_eq_true rfl, Nat.le_of_ble_eq_true rfl⟩) (preS_ro (wc := []) hK hP [] rfl) rfl rfl hl.1 rfl (lv_room (Nat.le_of_ble_eq_true rfl)) dX8_tell_20 ⟨Nat.zero_le _, Nat.zero_le _⟩) ?_
  refine nb_if_ne (tgt := 32) hx hb dX8_tell_23 (by decide) (fun c_23 => ?_) (fun c_23 => ?_)
  · have ct := atold_i.mp c_23
    obtain ⟨j_g, h_g, rfl⟩ := rg_ex ct.1
    have e_g := nn_nI (j := j_g) (by omega)
    obtain ⟨j_k, h_k, rfl⟩ := rg_ex ct.2.1
    have e_k := nn_nI (j := j_k) (by omega)
    refine lv_aload_n hx hb dX8_tell_32 rfl (lv_at hl 0 rfl) ?_
    refine va_get (D := G) (own := RX8) (ref := "SpotRowsModel") (ci := 8) (v := .ref (b 4)) (C := RX8) (T := TX8) (N := 23) hx hb hts hinX8 hown hK.1 hP 0 rfl rfl 9 (by decide) fl31 (fun _ h9 => h9) rfl dX8_tell_33 ?_
    refine lv_iload_n hx hb dX8_tell_36 rfl (lv_at hl 1 rfl) ?_
    refine lv_iload_n hx hb dX8_tell_37 rfl (lv_at hl 2 rfl) ?_
    refine cro_i (va_runS (As := [.int (nI j_x), .int (nI j_d)]) (rest := [.ref (b 4)]) ⟨hx, hb, hml, hown, hts⟩ (c_X8_at l G cI cJ (x := j_x) (d := j_d) ) (va_cwS 2 hts gX8_tell_X8_at rfl rfl rfl (by decide +kernel) ⟨Nat.le_of_ble_eq_true rfl, Nat.le_of_ble_eq_true rfl⟩) (preS_ro (wc := []) hK hP [] rfl) rfl rfl hl.1 rfl (lv_room (Nat.le_of_ble_eq_true rfl)) dX8_tell_38 ⟨Nat.zero_le _, Nat.zero_le _⟩) ?_
    refine lv_iload_n hx hb dX8_tell_41 rfl (lv_at hl 3 rfl) ?_
    refine st_I hx hb hK hP hD hS 1 (k := j_x * 240 + j_d) rfl (by omega) (by decide) dX8_tell_42 (fun H locs hP hD hS => ?_)
    have hP : va_P G vwCl [oM b st tp bt (nI ey) le en wo, aI cI (b 4) 1920 (upN gr (j_x * 240 + j_d) (nI j_g)), aI cI (b 5) 1920 sp] H := hP
    have hD : va_D A [oM b st tp bt (nI ey) le en wo, aI cI (b 4) 1920 (upN gr (j_x * 240 + j_d) (nI j_g)), aI cI (b 5) 1920 sp] := hD
    refine lv_aload_n hx hb dX8_tell_43 rfl (lv_at hl 0 rfl) ?_
    refine va_get (D := G) (own := RX8) (ref := "SpotRowsModel") (ci := 8) (v := .ref (b 5)) (C := RX8) (T := TX8) (N := 23) hx hb hts hinX8 hown hK.1 hP 0 rfl rfl 10 (by decide) fl34 (fun _ h9 => h9) rfl dX8_tell_44 ?_
    refine lv_iload_n hx hb dX8_tell_47 rfl (lv_at hl 1 rfl) ?_
    refine lv_iload_n hx hb dX8_tell_48 rfl (lv_at hl 2 rfl) ?_
    refine cro_i (va_runS (As := [.int (nI j_x), .int (nI j_d)]) (rest := [.ref (b 5)]) ⟨hx, hb, hml, hown, hts⟩ (c_X8_at l G cI cJ (x := j_x) (d := j_d) ) (va_cwS 2 hts gX8_tell_X8_at rfl rfl rfl (by decide +kernel) ⟨Nat.le_of_ble_eq_true rfl, Nat.le_of_ble_eq_true rfl⟩) (preS_ro (wc := []) hK hP [] rfl) rfl rfl hl.1 rfl (lv_room (Nat.le_of_ble_eq_true rfl)) dX8_tell_49 ⟨Nat.zero_le _, Nat.zero_le _⟩) ?_
    refine lv_iload hx hb dX8_tell_52 (lv_at hl 4 rfl) ?_
    refine st_I hx hb hK hP hD hS 2 (k := j_x * 240 + j_d) rfl (by omega) (by decide) dX8_tell_54 (fun H locs hP hD hS => ?_)
    have hP : va_P G vwCl [oM b st tp bt (nI ey) le en wo, aI cI (b 4) 1920 (upN gr (j_x * 240 + j_d) (nI j_g)), aI cI (b 5) 1920 (upN sp (j_x * 240 + j_d) (nI j_k))] H := hP
    have hD : va_D A [oM b st tp bt (nI ey) le en wo, aI cI (b 4) 1920 (upN gr (j_x * 240 + j_d) (nI j_g)), aI cI (b 5) 1920 (upN sp (j_x * 240 + j_d) (nI j_k))] := hD
    refine lv_aload_n hx hb dX8_tell_55 rfl (lv_at hl 0 rfl) ?_
    refine lv_iconst (v := nI 0) hx hb dX8_tell_56 (by decide) ?_
    refine crw_i (va_runV (As := [.int (nI 0)]) (rest := []) ⟨hx, hb, hml, hown, hts⟩ (c_X8_is l G cI cJ (b := b) (st := st) (tp := tp) (bt := bt) (ey := ey) (le := le) (en := en) (wo := wo) (w := 0) (hw := by first | assumption | omega)) (cwV 1 hts gX8_tell_X8_is rfl rfl rfl (by decide +kernel) ⟨Nat.le_of_ble_eq_true rfl, Nat.le_of_ble_eq_true rfl⟩) (preV_rw (wc := [oM b st tp bt (nI ey) le en wo]) hK hP hD [0] rfl rfl 8 0 rfl rfl rfl) rfl rfl hl.1 rfl (lv_room (Nat.le_of_ble_eq_true rfl)) dX8_tell_57 ⟨Nat.zero_le _, Nat.zero_le _⟩) hP hD hS [0] rfl [b 0] (fun u => rfl) rfl (fun r_57 u_ H locs hw_57 hP hD hS => ?_)
    have hP : va_P G vwCl [oM b (nI 0) tp bt (nI ey) le en wo, aI cI (b 4) 1920 (upN gr (j_x * 240 + j_d) (nI j_g)), aI cI (b 5) 1920 (upN sp (j_x * 240 + j_d) (nI j_k))] H := hP
    have hD : va_D A [oM b (nI 0) tp bt (nI ey) le en wo, aI cI (b 4) 1920 (upN gr (j_x * 240 + j_d) (nI j_g)), aI cI (b 5) 1920 (upN sp (j_x * 240 + j_d) (nI j_k))] := hD
    refine toi hw_57 ?_
    have hP : va_P G vwCl [oM b (nI (qTell ey (nI j_x) (nI j_d) (nI j_g) (nI j_k))) tp bt (nI ey) le en wo, aI cI (b 4) 1920 (upN gr (j_x * 240 + j_d) (nI j_g)), aI cI (b 5) 1920 (upN sp (j_x * 240 + j_d) (nI j_k))] H := by
      have ew : ([oM b (nI 0) tp bt (nI ey) le en wo, aI cI (b 4) 1920 (upN gr (j_x * 240 + j_d) (nI j_g)), aI cI (b 5) 1920 (upN sp (j_x * 240 + j_d) (nI j_k))] : va_W) = [oM b (nI (qTell ey (nI j_x) (nI j_d) (nI j_g) (nI j_k))) tp bt (nI ey) le en wo, aI cI (b 4) 1920 (upN gr (j_x * 240 + j_d) (nI j_g)), aI cI (b 5) 1920 (upN sp (j_x * 240 + j_d) (nI j_k))] := (wvC (congrArg (fun zz => oM b zz tp bt (nI ey) le en wo) (show nI 0 = nI (qTell ey (nI j_x) (nI j_d) (nI j_g) (nI j_k)) from (congrArg nI (show 0 = (qTell ey (nI j_x) (nI j_d) (nI j_g) (nI j_k)) from by first | rfl | (simp only [qTell, okTell, atold_i, cif_T, cif_F, ctold, c_5, e_x, c_12, e_d, c_23, ct, e_g, e_k]; done) | (simp [qTell, okTell, atold_i, cif_T, cif_F, ctold, c_5, e_x, c_12, e_d, c_23, ct, e_g, e_k]; done) | omega | (simp [qTell, okTell, atold_i, cif_T, cif_F, ctold, c_5, e_x, c_12, e_d, c_23, ct, e_g, e_k]; omega))))) (wvC rfl (wvC rfl rfl)))
      rw [← ew]; exact hP
    exact W.zret (v := bi (0 = 0)) hx hb hr bi_nar (fun zt ht zw => ⟨⟨_, (upN gr (j_x * 240 + j_d) (nI j_g), upN sp (j_x * 240 + j_d) (nI j_k)), rfl, ⟨(bi_cong (show 0 = 0 ↔ qTell ey (nI j_x) (nI j_d) (nI j_g) (nI j_k) = 0 from by first | rfl | (simp only [qTell, okTell, atold_i, cif_T, cif_F, ctold, c_5, e_x, c_12, e_d, c_23, ct, e_g, e_k]; done) | (simp [qTell, okTell, atold_i, cif_T, cif_F, ctold, c_5, e_x, c_12, e_d, c_23, ct, e_g, e_k]; done) | omega | (simp [qTell, okTell, atold_i, cif_T, cif_F, ctold, c_5, e_x, c_12, e_d, c_23, ct, e_g, e_k]; omega))), (by have ht2 : tTell t ey (nI j_x) (nI j_d) (nI j_g) (nI j_k) = upN t (j_x * 240 + j_d) (1000 * j_g + j_k + 1) := (by simp [cif_T, ctold, tTell, okTell, c_5, c_12, ct, e_x, e_d, e_g, e_k]); rw [ht2]; exact GM_put hG (by omega))⟩, by show va_P _ _ _ zt.heap; rw [ht]; exact hP⟩, by rw [hAe]; exact hS.F ht⟩) hS.2.2 dX8_tell_60
  refine lv_aload_n hx hb dX8_tell_26 rfl (lv_at hl 0 rfl) ?_
  refine lv_iconst (v := nI 1) hx hb dX8_tell_27 (by decide) ?_
  refine crw_i (va_runV (As := [.int (nI 1)]) (rest := []) ⟨hx, hb, hml, hown, hts⟩ (c_X8_is l G cI cJ (b := b) (st := st) (tp := tp) (bt := bt) (ey := ey) (le := le) (en := en) (wo := wo) (w := 1) (hw := by first | assumption | omega)) (cwV 1 hts gX8_tell_X8_is rfl rfl rfl (by decide +kernel) ⟨Nat.le_of_ble_eq_true rfl, Nat.le_of_ble_eq_true rfl⟩) (preV_rw (wc := [oM b st tp bt (nI ey) le en wo]) hK hP hD [0] rfl rfl 8 0 rfl rfl rfl) rfl rfl hl.1 rfl (lv_room (Nat.le_of_ble_eq_true rfl)) dX8_tell_28 ⟨Nat.zero_le _, Nat.zero_le _⟩) hP hD hS [0] rfl [b 0] (fun u => rfl) rfl (fun r_28 u_ H locs hw_28 hP hD hS => ?_)
  have hP : va_P G vwCl [oM b (nI 1) tp bt (nI ey) le en wo, aI cI (b 4) 1920 gr, aI cI (b 5) 1920 sp] H := hP
  have hD : va_D A [oM b (nI 1) tp bt (nI ey) le en wo, aI cI (b 4) 1920 gr, aI cI (b 5) 1920 sp] := hD
  refine toi hw_28 ?_
  have hP : va_P G vwCl [oM b (nI (qTell ey (nI j_x) (nI j_d) g k)) tp bt (nI ey) le en wo, aI cI (b 4) 1920 gr, aI cI (b 5) 1920 sp] H := by
    have ew : ([oM b (nI 1) tp bt (nI ey) le en wo, aI cI (b 4) 1920 gr, aI cI (b 5) 1920 sp] : va_W) = [oM b (nI (qTell ey (nI j_x) (nI j_d) g k)) tp bt (nI ey) le en wo, aI cI (b 4) 1920 gr, aI cI (b 5) 1920 sp] := (wvC (congrArg (fun zz => oM b zz tp bt (nI ey) le en wo) (show nI 1 = nI (qTell ey (nI j_x) (nI j_d) g k) from (congrArg nI (show 1 = (qTell ey (nI j_x) (nI j_d) g k) from by first | (have k9 : ¬ okTell ey x d g k := (fun h => c_5 h.1); simp [qTell, cif_neg k9]; done) | (have k9 : ¬ okTell ey (nI j_x) d g k := (fun h => c_12 h.2.1); simp [qTell, cif_neg k9]; done) | (have k9 : ¬ okTell ey (nI j_x) (nI j_d) g k := (fun h => c_23 (atold_i.mpr h.2.2)); simp [qTell, cif_neg k9]; done))))) (wvC rfl (wvC rfl rfl)))
    rw [← ew]; exact hP
  exact W.zret (v := bi (1 = 0)) hx hb hr bi_nar (fun zt ht zw => ⟨⟨_, (gr, sp), rfl, ⟨(bi_cong (show 1 = 0 ↔ qTell ey (nI j_x) (nI j_d) g k = 0 from by first | (have k9 : ¬ okTell ey x d g k := (fun h => c_5 h.1); simp [qTell, cif_neg k9]; done) | (have k9 : ¬ okTell ey (nI j_x) d g k := (fun h => c_12 h.2.1); simp [qTell, cif_neg k9]; done) | (have k9 : ¬ okTell ey (nI j_x) (nI j_d) g k := (fun h => c_23 (atold_i.mpr h.2.2)); simp [qTell, cif_neg k9]; done))), (by first | (have k9 : ¬ okTell ey x d g k := (fun h => c_5 h.1); rw [tTell, cif_neg k9]; exact hG) | (have k9 : ¬ okTell ey (nI j_x) d g k := (fun h => c_12 h.2.1); rw [tTell, cif_neg k9]; exact hG) | (have k9 : ¬ okTell ey (nI j_x) (nI j_d) g k := (fun h => c_23 (atold_i.mpr h.2.2)); rw [tTell, cif_neg k9]; exact hG))⟩, by show va_P _ _ _ zt.heap; rw [ht]; exact hP⟩, by rw [hAe]; exact hS.F ht⟩) hS.2.2 dX8_tell_31

set_option maxHeartbeats 400000 in
set_option maxRecDepth 100000 in
theorem c_X8_unsay (l : Launch) (G : va_G) (cI cJ : ClassId) (b : Nat → Nat) (st : Int32) (tp : Int64) (bt : Int64) (ey : Nat) (le : Int32) (en : Int32) (wo : Int32) (t : Nat → Nat) (gr : Nat → Int32) (sp : Nat → Int32) (x : Int32) (d : Int32) (tb : TB t) (hey : ey ≤ 8) (hG : GM t ey gr sp) : Met l yX8_unsay wsX8_unsay ({ frames := 1, cells := 0, slots := 0, locals := 21 }) (rwP G cI cJ [.ref (b 0), .int x, .int d] [oM b st tp bt (nI ey) le en wo, aI cI (b 4) 1920 gr]) (rwQi G [oM b st tp bt (nI ey) le en wo, aI cI (b 4) 1920 gr] (fun (r : Int32) (gr2 : (Nat → Int32)) => r = bi (qUnsay t ey x d = 0) ∧ GM (tUnsay t ey x d) ey gr2 sp) (fun (gr2 : (Nat → Int32)) => [oM b (nI (qUnsay t ey x d)) tp bt (nI ey) le en wo, aI cI (b 4) 1920 gr2])) 0 0 (ads [oM b st tp bt (nI ey) le en wo, aI cI (b 4) 1920 gr]) := by
  refine Met.ofW (cc := cX8_unsay) (maxL := 3) (ret := (some .boolean)) (by decide) rfl ?_
  intro pg ev s mt args below meth cd s₁ B hml hv
  obtain ⟨rfl, hP, hD0, hK⟩ := hv
  have hx := B.exec
  have hb := B.bytes
  have hr := B.returns
  have hts := atoms_spec (ws := wsX8_unsay) B.pre
  have hown : s.vm.findClass RX8 = some mt.cls := findClass_of_methodNamed B.named
  have hlocks := B.notSynchronized
  have hD := ads_self hD0
  generalize hAe : ads [oM b st tp bt (nI ey) le en wo, aI cI (b 4) 1920 gr] = A at hD ⊢
  have hS : va_S A s.heap s.heap [] := va_S.rf
  have hP : va_P G vwCl [oM b st tp bt (nI ey) le en wo, aI cI (b 4) 1920 gr] s.heap := hP
  have hinX8 := (show ∀ w ∈ u_ws RX8 TX8 23, w ∈ wsX8_unsay by decide +kernel)
  have fl31 := hts (.fieldLink RX8 31 "SpotRowsModel" "groups" "[I") (by decide +kernel)
  have hl := lv_entry ([.ref (b 0), .int x, .int d]) (n := 3) (Nat.le_of_ble_eq_true rfl)
  rw [lg_entry_eq]
  generalize (lg_sl ([.ref (b 0), .int x, .int d]) ++ List.replicate (3 - (lg_sl ([.ref (b 0), .int x, .int d])).length) Slot.unset).toArray = ls at hl ⊢
  have hl : lv_has ls 3 [(0, .ref (b 0)), (1, .int x), (2, .int d)] := hl
  refine lv_aload_n hx hb dX8_unsay_0 rfl (lv_at hl 0 rfl) ?_
  refine lv_iload_n hx hb dX8_unsay_1 rfl (lv_at hl 1 rfl) ?_
  refine cro_i (va_runV (As := [.int x]) (rest := []) ⟨hx, hb, hml, hown, hts⟩ (c_X8_isEye l G cI cJ (b := b) (st := st) (tp := tp) (bt := bt) (ey := ey) (le := le) (en := en) (wo := wo) (x := x) (hey := by first | assumption | omega)) (cwV 1 hts gX8_unsay_X8_isEye rfl rfl rfl (by decide +kernel) ⟨Nat.le_of_ble_eq_true rfl, Nat.le_of_ble_eq_true rfl⟩) (preV_ro (wc := [oM b st tp bt (nI ey) le en wo]) hK hP [0] rfl 8 0 rfl rfl rfl) rfl rfl hl.1 rfl (lv_room (Nat.le_of_ble_eq_true rfl)) dX8_unsay_2 ⟨Nat.zero_le _, Nat.zero_le _⟩) ?_
  refine nb_if_eq (tgt := 15) hx hb dX8_unsay_5 (by decide) (fun c_5 => ?_) (fun c_5 => ?_)
  · refine lv_aload_n hx hb dX8_unsay_15 rfl (lv_at hl 0 rfl) ?_
    refine lv_iconst (v := nI 1) hx hb dX8_unsay_16 (by decide) ?_
    refine crw_i (va_runV (As := [.int (nI 1)]) (rest := []) ⟨hx, hb, hml, hown, hts⟩ (c_X8_is l G cI cJ (b := b) (st := st) (tp := tp) (bt := bt) (ey := ey) (le := le) (en := en) (wo := wo) (w := 1) (hw := by first | assumption | omega)) (cwV 1 hts gX8_unsay_X8_is rfl rfl rfl (by decide +kernel) ⟨Nat.le_of_ble_eq_true rfl, Nat.le_of_ble_eq_true rfl⟩) (preV_rw (wc := [oM b st tp bt (nI ey) le en wo]) hK hP hD [0] rfl rfl 8 0 rfl rfl rfl) rfl rfl hl.1 rfl (lv_room (Nat.le_of_ble_eq_true rfl)) dX8_unsay_17 ⟨Nat.zero_le _, Nat.zero_le _⟩) hP hD hS [0] rfl [b 0] (fun u => rfl) rfl (fun r_17 u_ H locs hw_17 hP hD hS => ?_)
    have hP : va_P G vwCl [oM b (nI 1) tp bt (nI ey) le en wo, aI cI (b 4) 1920 gr] H := hP
    have hD : va_D A [oM b (nI 1) tp bt (nI ey) le en wo, aI cI (b 4) 1920 gr] := hD
    refine toi hw_17 ?_
    have hP : va_P G vwCl [oM b (nI (qUnsay t ey x d)) tp bt (nI ey) le en wo, aI cI (b 4) 1920 gr] H := by
      have ew : ([oM b (nI 1) tp bt (nI ey) le en wo, aI cI (b 4) 1920 gr] : va_W) = [oM b (nI (qUnsay t ey x d)) tp bt (nI ey) le en wo, aI cI (b 4) 1920 gr] := (wvC (congrArg (fun zz => oM b zz tp bt (nI ey) le en wo) (show nI 1 = nI (qUnsay t ey x d) from (congrArg nI (show 1 = (qUnsay t ey x d) from by first | rfl | (simp only [qUnsay, og_eq, cif_T, cif_F, ctold, c_5]; done) | (simp [qUnsay, og_eq, cif_T, cif_F, ctold, c_5]; done) | omega | (simp [qUnsay, og_eq, cif_T, cif_F, ctold, c_5]; omega))))) (wvC rfl rfl))
      rw [← ew]; exact hP
    exact W.zret (v := bi (1 = 0)) hx hb hr bi_nar (fun zt ht zw => ⟨⟨_, gr, rfl, ⟨(bi_cong (show 1 = 0 ↔ qUnsay t ey x d = 0 from by first | rfl | (simp only [qUnsay, og_eq, cif_T, cif_F, ctold, c_5]; done) | (simp [qUnsay, og_eq, cif_T, cif_F, ctold, c_5]; done) | omega | (simp [qUnsay, og_eq, cif_T, cif_F, ctold, c_5]; omega))), (by first | (have ht2 : tUnsay t ey (nI j_x) d = t := (by simp [cif_F, tUnsay, qUnsay, c_12]); rw [ht2]; exact hG) | (have ht2 : tUnsay t ey x d = t := (by simp [cif_F, tUnsay, qUnsay, c_5]); rw [ht2]; exact hG))⟩, by show va_P _ _ _ zt.heap; rw [ht]; exact hP⟩, by rw [hAe]; exact hS.F ht⟩) hS.2.2 dX8_unsay_20
  obtain ⟨j_x, h_x, rfl⟩ := rg_ex c_5
  have e_x := nn_nI (j := j_x) (by omega)
  refine lv_iload_n hx hb dX8_unsay_8 rfl (lv_at hl 2 rfl) ?_
  refine cro_i (va_runS (As := [.int d]) (rest := []) ⟨hx, hb, hml, hown, hts⟩ (c_X8_isDay l G cI cJ (x := d) ) (va_cwS 1 hts gX8_unsay_X8_isDay rfl rfl rfl (by decide +kernel) ⟨Nat.le_of_ble_eq_true rfl, Nat.le_of_ble_eq_true rfl⟩) (preS_ro (wc := []) hK hP [] rfl) rfl rfl hl.1 rfl (lv_room (Nat.le_of_ble_eq_true rfl)) dX8_unsay_9 ⟨Nat.zero_le _, Nat.zero_le _⟩) ?_
  refine nb_if_ne (tgt := 21) hx hb dX8_unsay_12 (by decide) (fun c_12 => ?_) (fun c_12 => ?_)
  · obtain ⟨j_d, h_d, rfl⟩ := rg_ex c_12
    have e_d := nn_nI (j := j_d) (by omega)
    refine lv_aload_n hx hb dX8_unsay_21 rfl (lv_at hl 0 rfl) ?_
    refine va_get (D := G) (own := RX8) (ref := "SpotRowsModel") (ci := 8) (v := .ref (b 4)) (C := RX8) (T := TX8) (N := 23) hx hb hts hinX8 hown hK.1 hP 0 rfl rfl 9 (by decide) fl31 (fun _ h9 => h9) rfl dX8_unsay_22 ?_
    refine lv_iload_n hx hb dX8_unsay_25 rfl (lv_at hl 1 rfl) ?_
    refine lv_iload_n hx hb dX8_unsay_26 rfl (lv_at hl 2 rfl) ?_
    refine cro_i (va_runS (As := [.int (nI j_x), .int (nI j_d)]) (rest := [.ref (b 4)]) ⟨hx, hb, hml, hown, hts⟩ (c_X8_at l G cI cJ (x := j_x) (d := j_d) ) (va_cwS 2 hts gX8_unsay_X8_at rfl rfl rfl (by decide +kernel) ⟨Nat.le_of_ble_eq_true rfl, Nat.le_of_ble_eq_true rfl⟩) (preS_ro (wc := []) hK hP [] rfl) rfl rfl hl.1 rfl (lv_room (Nat.le_of_ble_eq_true rfl)) dX8_unsay_27 ⟨Nat.zero_le _, Nat.zero_le _⟩) ?_
    refine ld_I hx hb hK hP 1 (k := j_x * 240 + j_d) rfl (by first | omega | exact Nat.le_trans (og_le tb _) (by decide)) (by decide) dX8_unsay_30 ?_
    refine toi (show gr (j_x * 240 + j_d) = oI (og t (j_x * 240 + j_d)) from (hG.1 (j_x * 240 + j_d) (by omega))) ?_
    refine lv_iconst (v := (-1)) hx hb dX8_unsay_31 (by decide) ?_
    refine no_icmp_ne (tgt := 41) hx hb dX8_unsay_32 (by decide) (by first | omega | exact Nat.le_trans (og_le tb _) (by decide)) (fun c_32 => ?_) (fun c_32 => ?_)
    · have t0 : t (j_x * 240 + j_d) ≠ 0 := fun h => c_32 (og_eq.mpr h)
      refine lv_aload_n hx hb dX8_unsay_41 rfl (lv_at hl 0 rfl) ?_
      refine va_get (D := G) (own := RX8) (ref := "SpotRowsModel") (ci := 8) (v := .ref (b 4)) (C := RX8) (T := TX8) (N := 23) hx hb hts hinX8 hown hK.1 hP 0 rfl rfl 9 (by decide) fl31 (fun _ h9 => h9) rfl dX8_unsay_42 ?_
      refine lv_iload_n hx hb dX8_unsay_45 rfl (lv_at hl 1 rfl) ?_
      refine lv_iload_n hx hb dX8_unsay_46 rfl (lv_at hl 2 rfl) ?_
      refine cro_i (va_runS (As := [.int (nI j_x), .int (nI j_d)]) (rest := [.ref (b 4)]) ⟨hx, hb, hml, hown, hts⟩ (c_X8_at l G cI cJ (x := j_x) (d := j_d) ) (va_cwS 2 hts gX8_unsay_X8_at rfl rfl rfl (by decide +kernel) ⟨Nat.le_of_ble_eq_true rfl, Nat.le_of_ble_eq_true rfl⟩) (preS_ro (wc := []) hK hP [] rfl) rfl rfl hl.1 rfl (lv_room (Nat.le_of_ble_eq_true rfl)) dX8_unsay_47 ⟨Nat.zero_le _, Nat.zero_le _⟩) ?_
      refine lv_iconst (v := (-1)) hx hb dX8_unsay_50 (by decide) ?_
      refine st_I hx hb hK hP hD hS 1 (k := j_x * 240 + j_d) rfl (by first | omega | exact Nat.le_trans (og_le tb _) (by decide)) (by decide) dX8_unsay_51 (fun H locs hP hD hS => ?_)
      have hP : va_P G vwCl [oM b st tp bt (nI ey) le en wo, aI cI (b 4) 1920 (upN gr (j_x * 240 + j_d) (-1))] H := hP
      have hD : va_D A [oM b st tp bt (nI ey) le en wo, aI cI (b 4) 1920 (upN gr (j_x * 240 + j_d) (-1))] := hD
      refine lv_aload_n hx hb dX8_unsay_52 rfl (lv_at hl 0 rfl) ?_
      refine lv_iconst (v := nI 0) hx hb dX8_unsay_53 (by decide) ?_
      refine crw_i (va_runV (As := [.int (nI 0)]) (rest := []) ⟨hx, hb, hml, hown, hts⟩ (c_X8_is l G cI cJ (b := b) (st := st) (tp := tp) (bt := bt) (ey := ey) (le := le) (en := en) (wo := wo) (w := 0) (hw := by first | assumption | omega)) (cwV 1 hts gX8_unsay_X8_is rfl rfl rfl (by decide +kernel) ⟨Nat.le_of_ble_eq_true rfl, Nat.le_of_ble_eq_true rfl⟩) (preV_rw (wc := [oM b st tp bt (nI ey) le en wo]) hK hP hD [0] rfl rfl 8 0 rfl rfl rfl) rfl rfl hl.1 rfl (lv_room (Nat.le_of_ble_eq_true rfl)) dX8_unsay_54 ⟨Nat.zero_le _, Nat.zero_le _⟩) hP hD hS [0] rfl [b 0] (fun u => rfl) rfl (fun r_54 u_ H locs hw_54 hP hD hS => ?_)
      have hP : va_P G vwCl [oM b (nI 0) tp bt (nI ey) le en wo, aI cI (b 4) 1920 (upN gr (j_x * 240 + j_d) (-1))] H := hP
      have hD : va_D A [oM b (nI 0) tp bt (nI ey) le en wo, aI cI (b 4) 1920 (upN gr (j_x * 240 + j_d) (-1))] := hD
      refine toi hw_54 ?_
      have hP : va_P G vwCl [oM b (nI (qUnsay t ey (nI j_x) (nI j_d))) tp bt (nI ey) le en wo, aI cI (b 4) 1920 (upN gr (j_x * 240 + j_d) (-1))] H := by
        have ew : ([oM b (nI 0) tp bt (nI ey) le en wo, aI cI (b 4) 1920 (upN gr (j_x * 240 + j_d) (-1))] : va_W) = [oM b (nI (qUnsay t ey (nI j_x) (nI j_d))) tp bt (nI ey) le en wo, aI cI (b 4) 1920 (upN gr (j_x * 240 + j_d) (-1))] := (wvC (congrArg (fun zz => oM b zz tp bt (nI ey) le en wo) (show nI 0 = nI (qUnsay t ey (nI j_x) (nI j_d)) from (congrArg nI (show 0 = (qUnsay t ey (nI j_x) (nI j_d)) from by first | rfl | (simp only [qUnsay, og_eq, cif_T, cif_F, ctold, c_5, e_x, c_12, e_d, t0]; done) | (simp [qUnsay, og_eq, cif_T, cif_F, ctold, c_5, e_x, c_12, e_d, t0]; done) | (simp [qUnsay, og_eq, cif_T, cif_F, ctold, c_5, e_x, c_12, e_d, t0]; simp [c_32]; done) | (simp [qUnsay, og_eq, cif_T, cif_F, ctold, c_5, e_x, c_12, e_d, t0, c_32]; done) | omega | (simp [qUnsay, og_eq, cif_T, cif_F, ctold, c_5, e_x, c_12, e_d, t0]; omega) | (simp [qUnsay, og_eq, cif_T, cif_F, ctold, c_5, e_x, c_12, e_d, t0, c_32]; omega))))) (wvC rfl rfl))
        rw [← ew]; exact hP
      exact W.zret (v := bi (0 = 0)) hx hb hr bi_nar (fun zt ht zw => ⟨⟨_, upN gr (j_x * 240 + j_d) (-1), rfl, ⟨(bi_cong (show 0 = 0 ↔ qUnsay t ey (nI j_x) (nI j_d) = 0 from by first | rfl | (simp only [qUnsay, og_eq, cif_T, cif_F, ctold, c_5, e_x, c_12, e_d, t0]; done) | (simp [qUnsay, og_eq, cif_T, cif_F, ctold, c_5, e_x, c_12, e_d, t0]; done) | (simp [qUnsay, og_eq, cif_T, cif_F, ctold, c_5, e_x, c_12, e_d, t0]; simp [c_32]; done) | (simp [qUnsay, og_eq, cif_T, cif_F, ctold, c_5, e_x, c_12, e_d, t0, c_32]; done) | omega | (simp [qUnsay, og_eq, cif_T, cif_F, ctold, c_5, e_x, c_12, e_d, t0]; omega) | (simp [qUnsay, og_eq, cif_T, cif_F, ctold, c_5, e_x, c_12, e_d, t0, c_32]; omega))), (by have ht2 : tUnsay t ey (nI j_x) (nI j_d) = upN t (j_x * 240 + j_d) 0 := (by simp [cif_T, tUnsay, qUnsay, c_5, c_12, t0, e_x, e_d]); rw [ht2]; exact GM_del hG)⟩, by show va_P _ _ _ zt.heap; rw [ht]; exact hP⟩, by rw [hAe]; exact hS.F ht⟩) hS.2.2 dX8_unsay_57
    have t0 : t (j_x * 240 + j_d) = 0 := og_eq.mp c_32
    refine lv_aload_n hx hb dX8_unsay_35 rfl (lv_at hl 0 rfl) ?_
    refine lv_iconst (v := nI 5) hx hb dX8_unsay_36 (by decide) ?_
    refine crw_i (va_runV (As := [.int (nI 5)]) (rest := []) ⟨hx, hb, hml, hown, hts⟩ (c_X8_is l G cI cJ (b := b) (st := st) (tp := tp) (bt := bt) (ey := ey) (le := le) (en := en) (wo := wo) (w := 5) (hw := by first | assumption | omega)) (cwV 1 hts gX8_unsay_X8_is rfl rfl rfl (by decide +kernel) ⟨Nat.le_of_ble_eq_true rfl, Nat.le_of_ble_eq_true rfl⟩) (preV_rw (wc := [oM b st tp bt (nI ey) le en wo]) hK hP hD [0] rfl rfl 8 0 rfl rfl rfl) rfl rfl hl.1 rfl (lv_room (Nat.le_of_ble_eq_true rfl)) dX8_unsay_37 ⟨Nat.zero_le _, Nat.zero_le _⟩) hP hD hS [0] rfl [b 0] (fun u => rfl) rfl (fun r_37 u_ H locs hw_37 hP hD hS => ?_)
    have hP : va_P G vwCl [oM b (nI 5) tp bt (nI ey) le en wo, aI cI (b 4) 1920 gr] H := hP
    have hD : va_D A [oM b (nI 5) tp bt (nI ey) le en wo, aI cI (b 4) 1920 gr] := hD
    refine toi hw_37 ?_
    have hP : va_P G vwCl [oM b (nI (qUnsay t ey (nI j_x) (nI j_d))) tp bt (nI ey) le en wo, aI cI (b 4) 1920 gr] H := by
      have ew : ([oM b (nI 5) tp bt (nI ey) le en wo, aI cI (b 4) 1920 gr] : va_W) = [oM b (nI (qUnsay t ey (nI j_x) (nI j_d))) tp bt (nI ey) le en wo, aI cI (b 4) 1920 gr] := (wvC (congrArg (fun zz => oM b zz tp bt (nI ey) le en wo) (show nI 5 = nI (qUnsay t ey (nI j_x) (nI j_d)) from (congrArg nI (show 5 = (qUnsay t ey (nI j_x) (nI j_d)) from by first | rfl | (simp only [qUnsay, og_eq, cif_T, cif_F, ctold, c_5, e_x, c_12, e_d, t0]; done) | (simp [qUnsay, og_eq, cif_T, cif_F, ctold, c_5, e_x, c_12, e_d, t0]; done) | (simp [qUnsay, og_eq, cif_T, cif_F, ctold, c_5, e_x, c_12, e_d, t0]; simp [c_32]; done) | (simp [qUnsay, og_eq, cif_T, cif_F, ctold, c_5, e_x, c_12, e_d, t0, c_32]; done) | omega | (simp [qUnsay, og_eq, cif_T, cif_F, ctold, c_5, e_x, c_12, e_d, t0]; omega) | (simp [qUnsay, og_eq, cif_T, cif_F, ctold, c_5, e_x, c_12, e_d, t0, c_32]; omega))))) (wvC rfl rfl))
      rw [← ew]; exact hP
    exact W.zret (v := bi (5 = 0)) hx hb hr bi_nar (fun zt ht zw => ⟨⟨_, gr, rfl, ⟨(bi_cong (show 5 = 0 ↔ qUnsay t ey (nI j_x) (nI j_d) = 0 from by first | rfl | (simp only [qUnsay, og_eq, cif_T, cif_F, ctold, c_5, e_x, c_12, e_d, t0]; done) | (simp [qUnsay, og_eq, cif_T, cif_F, ctold, c_5, e_x, c_12, e_d, t0]; done) | (simp [qUnsay, og_eq, cif_T, cif_F, ctold, c_5, e_x, c_12, e_d, t0]; simp [c_32]; done) | (simp [qUnsay, og_eq, cif_T, cif_F, ctold, c_5, e_x, c_12, e_d, t0, c_32]; done) | omega | (simp [qUnsay, og_eq, cif_T, cif_F, ctold, c_5, e_x, c_12, e_d, t0]; omega) | (simp [qUnsay, og_eq, cif_T, cif_F, ctold, c_5, e_x, c_12, e_d, t0, c_32]; omega))), (by have ht2 : tUnsay t ey (nI j_x) (nI j_d) = t := (by simp [cif_T, tUnsay, qUnsay, c_5, c_12, t0, e_x, e_d]); rw [ht2]; exact hG)⟩, by show va_P _ _ _ zt.heap; rw [ht]; exact hP⟩, by rw [hAe]; exact hS.F ht⟩) hS.2.2 dX8_unsay_40
  refine lv_aload_n hx hb dX8_unsay_15 rfl (lv_at hl 0 rfl) ?_
  refine lv_iconst (v := nI 1) hx hb dX8_unsay_16 (by decide) ?_
  refine crw_i (va_runV (As := [.int (nI 1)]) (rest := []) ⟨hx, hb, hml, hown, hts⟩ (c_X8_is l G cI cJ (b := b) (st := st) (tp := tp) (bt := bt) (ey := ey) (le := le) (en := en) (wo := wo) (w := 1) (hw := by first | assumption | omega)) (cwV 1 hts gX8_unsay_X8_is rfl rfl rfl (by decide +kernel) ⟨Nat.le_of_ble_eq_true rfl, Nat.le_of_ble_eq_true rfl⟩) (preV_rw (wc := [oM b st tp bt (nI ey) le en wo]) hK hP hD [0] rfl rfl 8 0 rfl rfl rfl) rfl rfl hl.1 rfl (lv_room (Nat.le_of_ble_eq_true rfl)) dX8_unsay_17 ⟨Nat.zero_le _, Nat.zero_le _⟩) hP hD hS [0] rfl [b 0] (fun u => rfl) rfl (fun r_17 u_ H locs hw_17 hP hD hS => ?_)
  have hP : va_P G vwCl [oM b (nI 1) tp bt (nI ey) le en wo, aI cI (b 4) 1920 gr] H := hP
  have hD : va_D A [oM b (nI 1) tp bt (nI ey) le en wo, aI cI (b 4) 1920 gr] := hD
  refine toi hw_17 ?_
  have hP : va_P G vwCl [oM b (nI (qUnsay t ey (nI j_x) d)) tp bt (nI ey) le en wo, aI cI (b 4) 1920 gr] H := by
    have ew : ([oM b (nI 1) tp bt (nI ey) le en wo, aI cI (b 4) 1920 gr] : va_W) = [oM b (nI (qUnsay t ey (nI j_x) d)) tp bt (nI ey) le en wo, aI cI (b 4) 1920 gr] := (wvC (congrArg (fun zz => oM b zz tp bt (nI ey) le en wo) (show nI 1 = nI (qUnsay t ey (nI j_x) d) from (congrArg nI (show 1 = (qUnsay t ey (nI j_x) d) from by first | rfl | (simp only [qUnsay, og_eq, cif_T, cif_F, ctold, c_5, e_x, c_12]; done) | (simp [qUnsay, og_eq, cif_T, cif_F, ctold, c_5, e_x, c_12]; done) | omega | (simp [qUnsay, og_eq, cif_T, cif_F, ctold, c_5, e_x, c_12]; omega))))) (wvC rfl rfl))
    rw [← ew]; exact hP
  exact W.zret (v := bi (1 = 0)) hx hb hr bi_nar (fun zt ht zw => ⟨⟨_, gr, rfl, ⟨(bi_cong (show 1 = 0 ↔ qUnsay t ey (nI j_x) d = 0 from by first | rfl | (simp only [qUnsay, og_eq, cif_T, cif_F, ctold, c_5, e_x, c_12]; done) | (simp [qUnsay, og_eq, cif_T, cif_F, ctold, c_5, e_x, c_12]; done) | omega | (simp [qUnsay, og_eq, cif_T, cif_F, ctold, c_5, e_x, c_12]; omega))), (by first | (have ht2 : tUnsay t ey (nI j_x) d = t := (by simp [cif_F, tUnsay, qUnsay, c_12]); rw [ht2]; exact hG) | (have ht2 : tUnsay t ey x d = t := (by simp [cif_F, tUnsay, qUnsay, c_5]); rw [ht2]; exact hG))⟩, by show va_P _ _ _ zt.heap; rw [ht]; exact hP⟩, by rw [hAe]; exact hS.F ht⟩) hS.2.2 dX8_unsay_20

set_option maxHeartbeats 400000 in
set_option maxRecDepth 100000 in
theorem c_X8_number (l : Launch) (G : va_G) (cI cJ : ClassId) (b : Nat → Nat) (st : Int32) (tp : Int64) (bt : Int64) (ey : Nat) (le : Int32) (en : Int32) (wo : Int32) (t : Nat → Nat) (gr : Nat → Int32) (sp : Nat → Int32) (x : Nat) (d : Nat) (hey : ey ≤ 8) (hG : GM t ey gr sp) (h_x : x < ey) (h_d : d < 240) (hn : t (x * 240 + d) ≠ 0) : Met l yX8_number wsX8_number ({ frames := 1, cells := 0, slots := 0, locals := 21 }) (roP G cI cJ [.ref (b 0), .int (nI x), .int (nI d)] [oM b st tp bt (nI ey) le en wo, aI cI (b 4) 1920 gr, aI cI (b 5) 1920 sp]) (vp_Si (fun r => r = nI (num t (x * 240 + d)))) 0 0 (fun _ => False) := by
  refine Met.ofW (cc := cX8_number) (maxL := 3) (ret := (some .int)) (by decide) rfl ?_
  intro pg ev s mt args below meth cd s₁ B hml hv
  obtain ⟨rfl, hP, hK⟩ := hv
  have hx := B.exec
  have hb := B.bytes
  have hr := B.returns
  have hts := atoms_spec (ws := wsX8_number) B.pre
  have hown : s.vm.findClass RX8 = some mt.cls := findClass_of_methodNamed B.named
  have hlocks := B.notSynchronized
  have hP : va_P G vwCl [oM b st tp bt (nI ey) le en wo, aI cI (b 4) 1920 gr, aI cI (b 5) 1920 sp] s.heap := hP
  have hinX8 := (show ∀ w ∈ u_ws RX8 TX8 23, w ∈ wsX8_number by decide +kernel)
  have fl31 := hts (.fieldLink RX8 31 "SpotRowsModel" "groups" "[I") (by decide +kernel)
  have fl34 := hts (.fieldLink RX8 34 "SpotRowsModel" "spots" "[I") (by decide +kernel)
  have hl := lv_entry ([.ref (b 0), .int (nI x), .int (nI d)]) (n := 3) (Nat.le_of_ble_eq_true rfl)
  rw [lg_entry_eq]
  generalize (lg_sl ([.ref (b 0), .int (nI x), .int (nI d)]) ++ List.replicate (3 - (lg_sl ([.ref (b 0), .int (nI x), .int (nI d)])).length) Slot.unset).toArray = ls at hl ⊢
  have hl : lv_has ls 3 [(0, .ref (b 0)), (1, .int (nI x)), (2, .int (nI d))] := hl
  refine lv_bipush (v := nI 10) hx hb dX8_number_0 (by decide) ?_
  refine lv_aload_n hx hb dX8_number_2 rfl (lv_at hl 0 rfl) ?_
  refine va_get (D := G) (own := RX8) (ref := "SpotRowsModel") (ci := 8) (v := .ref (b 4)) (C := RX8) (T := TX8) (N := 23) hx hb hts hinX8 hown hK.1 hP 0 rfl rfl 9 (by decide) fl31 (fun _ h9 => h9) rfl dX8_number_3 ?_
  refine lv_iload_n hx hb dX8_number_6 rfl (lv_at hl 1 rfl) ?_
  refine lv_iload_n hx hb dX8_number_7 rfl (lv_at hl 2 rfl) ?_
  refine cro_i (va_runS (As := [.int (nI x), .int (nI d)]) (rest := [.ref (b 4), .int (nI 10)]) ⟨hx, hb, hml, hown, hts⟩ (c_X8_at l G cI cJ (x := x) (d := d) ) (va_cwS 2 hts gX8_number_X8_at rfl rfl rfl (by decide +kernel) ⟨Nat.le_of_ble_eq_true rfl, Nat.le_of_ble_eq_true rfl⟩) (preS_ro (wc := []) hK hP [] rfl) rfl rfl hl.1 rfl (lv_room (Nat.le_of_ble_eq_true rfl)) dX8_number_8 ⟨Nat.zero_le _, Nat.zero_le _⟩) ?_
  refine ld_I hx hb hK hP 1 (k := x * 240 + d) rfl (by omega) (by decide) dX8_number_11 ?_
  refine toi (show gr (x * 240 + d) = nI (grp t (x * 240 + d)) from ((hG.1 (x * 240 + d) (by omega)).trans (og_v hn))) ?_
  refine lv_imul hx hb dX8_number_12 ?_
  refine toi (pk_mul 10 (grp t (x * 240 + d))) ?_
  refine lv_aload_n hx hb dX8_number_13 rfl (lv_at hl 0 rfl) ?_
  refine va_get (D := G) (own := RX8) (ref := "SpotRowsModel") (ci := 8) (v := .ref (b 5)) (C := RX8) (T := TX8) (N := 23) hx hb hts hinX8 hown hK.1 hP 0 rfl rfl 10 (by decide) fl34 (fun _ h9 => h9) rfl dX8_number_14 ?_
  refine lv_iload_n hx hb dX8_number_17 rfl (lv_at hl 1 rfl) ?_
  refine lv_iload_n hx hb dX8_number_18 rfl (lv_at hl 2 rfl) ?_
  refine cro_i (va_runS (As := [.int (nI x), .int (nI d)]) (rest := [.ref (b 5), .int (nI (10 * grp t (x * 240 + d)))]) ⟨hx, hb, hml, hown, hts⟩ (c_X8_at l G cI cJ (x := x) (d := d) ) (va_cwS 2 hts gX8_number_X8_at rfl rfl rfl (by decide +kernel) ⟨Nat.le_of_ble_eq_true rfl, Nat.le_of_ble_eq_true rfl⟩) (preS_ro (wc := []) hK hP [] rfl) rfl rfl hl.1 rfl (lv_room (Nat.le_of_ble_eq_true rfl)) dX8_number_19 ⟨Nat.zero_le _, Nat.zero_le _⟩) ?_
  refine ld_I hx hb hK hP 2 (k := x * 240 + d) rfl (by omega) (by decide) dX8_number_22 ?_
  refine toi (show sp (x * 240 + d) = nI (spt t (x * 240 + d)) from (hG.2 (x * 240 + d) (by omega) hn)) ?_
  refine lv_iadd hx hb dX8_number_23 ?_
  refine toi (nI_add (10 * grp t (x * 240 + d)) (spt t (x * 240 + d))) ?_
  exact W.iret (v := nI (10 * grp t (x * 240 + d) + spt t (x * 240 + d))) hx hb hr (fun zt ht zw => ⟨_, rfl, (congrArg nI (show (10 * grp t (x * 240 + d) + spt t (x * 240 + d)) = (num t (x * 240 + d)) from by rfl)), ht⟩) (fun q hq => absurd hq List.not_mem_nil) dX8_number_24

set_option maxHeartbeats 400000 in
set_option maxRecDepth 100000 in
theorem c_X8_told (l : Launch) (G : va_G) (cI cJ : ClassId) (b : Nat → Nat) (st : Int32) (tp : Int64) (bt : Int64) (ey : Nat) (le : Int32) (en : Int32) (wo : Int32) (t : Nat → Nat) (gr : Nat → Int32) (sp : Nat → Int32) (x : Int32) (d : Int32) (w : Int32) (tb : TB t) (hey : ey ≤ 8) (hG : GM t ey gr sp) : Met l yX8_told wsX8_told ({ frames := 2, cells := 0, slots := 0, locals := 43 }) (rwP G cI cJ [.ref (b 0), .int x, .int d, .int w] [oM b st tp bt (nI ey) le en wo, aI cI (b 4) 1920 gr, aI cI (b 5) 1920 sp]) (rwQi G [oM b st tp bt (nI ey) le en wo, aI cI (b 4) 1920 gr, aI cI (b 5) 1920 sp] (fun (r : Int32) (_ : Unit) => r = oI (rTold t ey x d w)) (fun (_ : Unit) => [oM b (nI (qTold t ey x d w)) tp bt (nI ey) le en wo, aI cI (b 4) 1920 gr, aI cI (b 5) 1920 sp])) 0 0 (ads [oM b st tp bt (nI ey) le en wo, aI cI (b 4) 1920 gr, aI cI (b 5) 1920 sp]) := by
  refine Met.ofW (cc := cX8_told) (maxL := 4) (ret := (some .int)) (by decide) rfl ?_
  intro pg ev s mt args below meth cd s₁ B hml hv
  obtain ⟨rfl, hP, hD0, hK⟩ := hv
  have hx := B.exec
  have hb := B.bytes
  have hr := B.returns
  have hts := atoms_spec (ws := wsX8_told) B.pre
  have hown : s.vm.findClass RX8 = some mt.cls := findClass_of_methodNamed B.named
  have hlocks := B.notSynchronized
  have hD := ads_self hD0
  generalize hAe : ads [oM b st tp bt (nI ey) le en wo, aI cI (b 4) 1920 gr, aI cI (b 5) 1920 sp] = A at hD ⊢
  have hS : va_S A s.heap s.heap [] := va_S.rf
  have hP : va_P G vwCl [oM b st tp bt (nI ey) le en wo, aI cI (b 4) 1920 gr, aI cI (b 5) 1920 sp] s.heap := hP
  have hinX8 := (show ∀ w ∈ u_ws RX8 TX8 23, w ∈ wsX8_told by decide +kernel)
  have fl31 := hts (.fieldLink RX8 31 "SpotRowsModel" "groups" "[I") (by decide +kernel)
  have fl73 := hts (.fieldLink RX8 73 "SpotRowsModel" "status" "I") (by decide +kernel)
  have fl34 := hts (.fieldLink RX8 34 "SpotRowsModel" "spots" "[I") (by decide +kernel)
  have hl := lv_entry ([.ref (b 0), .int x, .int d, .int w]) (n := 4) (Nat.le_of_ble_eq_true rfl)
  rw [lg_entry_eq]
  generalize (lg_sl ([.ref (b 0), .int x, .int d, .int w]) ++ List.replicate (4 - (lg_sl ([.ref (b 0), .int x, .int d, .int w])).length) Slot.unset).toArray = ls at hl ⊢
  have hl : lv_has ls 4 [(0, .ref (b 0)), (1, .int x), (2, .int d), (3, .int w)] := hl
  refine lv_aload_n hx hb dX8_told_0 rfl (lv_at hl 0 rfl) ?_
  refine lv_iload_n hx hb dX8_told_1 rfl (lv_at hl 1 rfl) ?_
  refine cro_i (va_runV (As := [.int x]) (rest := []) ⟨hx, hb, hml, hown, hts⟩ (c_X8_isEye l G cI cJ (b := b) (st := st) (tp := tp) (bt := bt) (ey := ey) (le := le) (en := en) (wo := wo) (x := x) (hey := by first | assumption | omega)) (cwV 1 hts gX8_told_X8_isEye rfl rfl rfl (by decide +kernel) ⟨Nat.le_of_ble_eq_true rfl, Nat.le_of_ble_eq_true rfl⟩) (preV_ro (wc := [oM b st tp bt (nI ey) le en wo]) hK hP [0] rfl 8 0 rfl rfl rfl) rfl rfl hl.1 rfl (lv_room (Nat.le_of_ble_eq_true rfl)) dX8_told_2 ⟨Nat.zero_le _, Nat.zero_le _⟩) ?_
  refine nb_if_eq (tgt := 24) hx hb dX8_told_5 (by decide) (fun c_5 => ?_) (fun c_5 => ?_)
  · refine lv_aload_n hx hb dX8_told_24 rfl (lv_at hl 0 rfl) ?_
    refine lv_iconst (v := nI 1) hx hb dX8_told_25 (by decide) ?_
    refine crw_i (va_runV (As := [.int (nI 1)]) (rest := []) ⟨hx, hb, hml, hown, hts⟩ (c_X8_refuse l G cI cJ (b := b) (st := st) (tp := tp) (bt := bt) (ey := ey) (le := le) (en := en) (wo := wo) (w := nI 1) ) (cwV 1 hts gX8_told_X8_refuse rfl rfl rfl (by decide +kernel) ⟨Nat.le_of_ble_eq_true rfl, Nat.le_of_ble_eq_true rfl⟩) (preV_rw (wc := [oM b st tp bt (nI ey) le en wo]) hK hP hD [0] rfl rfl 8 0 rfl rfl rfl) rfl rfl hl.1 rfl (lv_room (Nat.le_of_ble_eq_true rfl)) dX8_told_26 ⟨Nat.zero_le _, Nat.zero_le _⟩) hP hD hS [0] rfl [b 0] (fun u => rfl) rfl (fun r_26 u_ H locs hw_26 hP hD hS => ?_)
    have hP : va_P G vwCl [oM b (nI 1) tp bt (nI ey) le en wo, aI cI (b 4) 1920 gr, aI cI (b 5) 1920 sp] H := hP
    have hD : va_D A [oM b (nI 1) tp bt (nI ey) le en wo, aI cI (b 4) 1920 gr, aI cI (b 5) 1920 sp] := hD
    refine toi hw_26 ?_
    have hP : va_P G vwCl [oM b (nI (qTold t ey x d w)) tp bt (nI ey) le en wo, aI cI (b 4) 1920 gr, aI cI (b 5) 1920 sp] H := by
      have ew : ([oM b (nI 1) tp bt (nI ey) le en wo, aI cI (b 4) 1920 gr, aI cI (b 5) 1920 sp] : va_W) = [oM b (nI (qTold t ey x d w)) tp bt (nI ey) le en wo, aI cI (b 4) 1920 gr, aI cI (b 5) 1920 sp] := (wvC (congrArg (fun zz => oM b zz tp bt (nI ey) le en wo) (show nI 1 = nI (qTold t ey x d w) from (congrArg nI (show 1 = (qTold t ey x d w) from by first | rfl | (simp only [qTold, rTold, og_eq, cif_T, cif_F, ctold, c_5]; done) | (simp [qTold, rTold, og_eq, cif_T, cif_F, ctold, c_5]; done) | omega | (simp [qTold, rTold, og_eq, cif_T, cif_F, ctold, c_5]; omega))))) (wvC rfl (wvC rfl rfl)))
      rw [← ew]; exact hP
    exact W.iret (v := (-1)) hx hb hr (fun zt ht zw => ⟨⟨_, (), rfl, (m1_o.trans (congrArg oI (show 0 = (rTold t ey x d w) from by first | rfl | (simp only [qTold, rTold, og_eq, cif_T, cif_F, ctold, c_5]; done) | (simp [qTold, rTold, og_eq, cif_T, cif_F, ctold, c_5]; done) | omega | (simp [qTold, rTold, og_eq, cif_T, cif_F, ctold, c_5]; omega)))), by show va_P _ _ _ zt.heap; rw [ht]; exact hP⟩, by rw [hAe]; exact hS.F ht⟩) hS.2.2 dX8_told_29
  obtain ⟨j_x, h_x, rfl⟩ := rg_ex c_5
  have e_x := nn_nI (j := j_x) (by omega)
  refine lv_iload_n hx hb dX8_told_8 rfl (lv_at hl 2 rfl) ?_
  refine cro_i (va_runS (As := [.int d]) (rest := []) ⟨hx, hb, hml, hown, hts⟩ (c_X8_isDay l G cI cJ (x := d) ) (va_cwS 1 hts gX8_told_X8_isDay rfl rfl rfl (by decide +kernel) ⟨Nat.le_of_ble_eq_true rfl, Nat.le_of_ble_eq_true rfl⟩) (preS_ro (wc := []) hK hP [] rfl) rfl rfl hl.1 rfl (lv_room (Nat.le_of_ble_eq_true rfl)) dX8_told_9 ⟨Nat.zero_le _, Nat.zero_le _⟩) ?_
  refine nb_if_eq (tgt := 24) hx hb dX8_told_12 (by decide) (fun c_12 => ?_) (fun c_12 => ?_)
  · refine lv_aload_n hx hb dX8_told_24 rfl (lv_at hl 0 rfl) ?_
    refine lv_iconst (v := nI 1) hx hb dX8_told_25 (by decide) ?_
    refine crw_i (va_runV (As := [.int (nI 1)]) (rest := []) ⟨hx, hb, hml, hown, hts⟩ (c_X8_refuse l G cI cJ (b := b) (st := st) (tp := tp) (bt := bt) (ey := ey) (le := le) (en := en) (wo := wo) (w := nI 1) ) (cwV 1 hts gX8_told_X8_refuse rfl rfl rfl (by decide +kernel) ⟨Nat.le_of_ble_eq_true rfl, Nat.le_of_ble_eq_true rfl⟩) (preV_rw (wc := [oM b st tp bt (nI ey) le en wo]) hK hP hD [0] rfl rfl 8 0 rfl rfl rfl) rfl rfl hl.1 rfl (lv_room (Nat.le_of_ble_eq_true rfl)) dX8_told_26 ⟨Nat.zero_le _, Nat.zero_le _⟩) hP hD hS [0] rfl [b 0] (fun u => rfl) rfl (fun r_26 u_ H locs hw_26 hP hD hS => ?_)
    have hP : va_P G vwCl [oM b (nI 1) tp bt (nI ey) le en wo, aI cI (b 4) 1920 gr, aI cI (b 5) 1920 sp] H := hP
    have hD : va_D A [oM b (nI 1) tp bt (nI ey) le en wo, aI cI (b 4) 1920 gr, aI cI (b 5) 1920 sp] := hD
    refine toi hw_26 ?_
    have hP : va_P G vwCl [oM b (nI (qTold t ey (nI j_x) d w)) tp bt (nI ey) le en wo, aI cI (b 4) 1920 gr, aI cI (b 5) 1920 sp] H := by
      have ew : ([oM b (nI 1) tp bt (nI ey) le en wo, aI cI (b 4) 1920 gr, aI cI (b 5) 1920 sp] : va_W) = [oM b (nI (qTold t ey (nI j_x) d w)) tp bt (nI ey) le en wo, aI cI (b 4) 1920 gr, aI cI (b 5) 1920 sp] := (wvC (congrArg (fun zz => oM b zz tp bt (nI ey) le en wo) (show nI 1 = nI (qTold t ey (nI j_x) d w) from (congrArg nI (show 1 = (qTold t ey (nI j_x) d w) from by first | rfl | (simp only [qTold, rTold, og_eq, cif_T, cif_F, ctold, c_5, e_x, c_12]; done) | (simp [qTold, rTold, og_eq, cif_T, cif_F, ctold, c_5, e_x, c_12]; done) | omega | (simp [qTold, rTold, og_eq, cif_T, cif_F, ctold, c_5, e_x, c_12]; omega))))) (wvC rfl (wvC rfl rfl)))
      rw [← ew]; exact hP
    exact W.iret (v := (-1)) hx hb hr (fun zt ht zw => ⟨⟨_, (), rfl, (m1_o.trans (congrArg oI (show 0 = (rTold t ey (nI j_x) d w) from by first | rfl | (simp only [qTold, rTold, og_eq, cif_T, cif_F, ctold, c_5, e_x, c_12]; done) | (simp [qTold, rTold, og_eq, cif_T, cif_F, ctold, c_5, e_x, c_12]; done) | omega | (simp [qTold, rTold, og_eq, cif_T, cif_F, ctold, c_5, e_x, c_12]; omega)))), by show va_P _ _ _ zt.heap; rw [ht]; exact hP⟩, by rw [hAe]; exact hS.F ht⟩) hS.2.2 dX8_told_29
  obtain ⟨j_d, h_d, rfl⟩ := rg_ex c_12
  have e_d := nn_nI (j := j_d) (by omega)
  refine lv_iload_n hx hb dX8_told_15 rfl (lv_at hl 3 rfl) ?_
  refine lv_if_lt (tgt := 24) hx hb dX8_told_16 (by decide) (fun c_16 => ?_) (fun c_16 => ?_)
  · have rw_ : ¬ rg w 3 := nrg_lt c_16
    refine lv_aload_n hx hb dX8_told_24 rfl (lv_at hl 0 rfl) ?_
    refine lv_iconst (v := nI 1) hx hb dX8_told_25 (by decide) ?_
    refine crw_i (va_runV (As := [.int (nI 1)]) (rest := []) ⟨hx, hb, hml, hown, hts⟩ (c_X8_refuse l G cI cJ (b := b) (st := st) (tp := tp) (bt := bt) (ey := ey) (le := le) (en := en) (wo := wo) (w := nI 1) ) (cwV 1 hts gX8_told_X8_refuse rfl rfl rfl (by decide +kernel) ⟨Nat.le_of_ble_eq_true rfl, Nat.le_of_ble_eq_true rfl⟩) (preV_rw (wc := [oM b st tp bt (nI ey) le en wo]) hK hP hD [0] rfl rfl 8 0 rfl rfl rfl) rfl rfl hl.1 rfl (lv_room (Nat.le_of_ble_eq_true rfl)) dX8_told_26 ⟨Nat.zero_le _, Nat.zero_le _⟩) hP hD hS [0] rfl [b 0] (fun u => rfl) rfl (fun r_26 u_ H locs hw_26 hP hD hS => ?_)
    have hP : va_P G vwCl [oM b (nI 1) tp bt (nI ey) le en wo, aI cI (b 4) 1920 gr, aI cI (b 5) 1920 sp] H := hP
    have hD : va_D A [oM b (nI 1) tp bt (nI ey) le en wo, aI cI (b 4) 1920 gr, aI cI (b 5) 1920 sp] := hD
    refine toi hw_26 ?_
    have hP : va_P G vwCl [oM b (nI (qTold t ey (nI j_x) (nI j_d) w)) tp bt (nI ey) le en wo, aI cI (b 4) 1920 gr, aI cI (b 5) 1920 sp] H := by
      have ew : ([oM b (nI 1) tp bt (nI ey) le en wo, aI cI (b 4) 1920 gr, aI cI (b 5) 1920 sp] : va_W) = [oM b (nI (qTold t ey (nI j_x) (nI j_d) w)) tp bt (nI ey) le en wo, aI cI (b 4) 1920 gr, aI cI (b 5) 1920 sp] := (wvC (congrArg (fun zz => oM b zz tp bt (nI ey) le en wo) (show nI 1 = nI (qTold t ey (nI j_x) (nI j_d) w) from (congrArg nI (show 1 = (qTold t ey (nI j_x) (nI j_d) w) from by first | rfl | (simp only [qTold, rTold, og_eq, cif_T, cif_F, ctold, c_5, e_x, c_12, e_d, rw_]; done) | (simp [qTold, rTold, og_eq, cif_T, cif_F, ctold, c_5, e_x, c_12, e_d, rw_]; done) | (simp [qTold, rTold, og_eq, cif_T, cif_F, ctold, c_5, e_x, c_12, e_d, rw_]; simp [c_16]; done) | (simp [qTold, rTold, og_eq, cif_T, cif_F, ctold, c_5, e_x, c_12, e_d, rw_, c_16]; done) | omega | (simp [qTold, rTold, og_eq, cif_T, cif_F, ctold, c_5, e_x, c_12, e_d, rw_]; omega) | (simp [qTold, rTold, og_eq, cif_T, cif_F, ctold, c_5, e_x, c_12, e_d, rw_, c_16]; omega))))) (wvC rfl (wvC rfl rfl)))
      rw [← ew]; exact hP
    exact W.iret (v := (-1)) hx hb hr (fun zt ht zw => ⟨⟨_, (), rfl, (m1_o.trans (congrArg oI (show 0 = (rTold t ey (nI j_x) (nI j_d) w) from by first | rfl | (simp only [qTold, rTold, og_eq, cif_T, cif_F, ctold, c_5, e_x, c_12, e_d, rw_]; done) | (simp [qTold, rTold, og_eq, cif_T, cif_F, ctold, c_5, e_x, c_12, e_d, rw_]; done) | (simp [qTold, rTold, og_eq, cif_T, cif_F, ctold, c_5, e_x, c_12, e_d, rw_]; simp [c_16]; done) | (simp [qTold, rTold, og_eq, cif_T, cif_F, ctold, c_5, e_x, c_12, e_d, rw_, c_16]; done) | omega | (simp [qTold, rTold, og_eq, cif_T, cif_F, ctold, c_5, e_x, c_12, e_d, rw_]; omega) | (simp [qTold, rTold, og_eq, cif_T, cif_F, ctold, c_5, e_x, c_12, e_d, rw_, c_16]; omega)))), by show va_P _ _ _ zt.heap; rw [ht]; exact hP⟩, by rw [hAe]; exact hS.F ht⟩) hS.2.2 dX8_told_29
  refine lv_iload_n hx hb dX8_told_19 rfl (lv_at hl 3 rfl) ?_
  refine lv_iconst (v := nI 2) hx hb dX8_told_20 (by decide) ?_
  refine lv_icmp_le (tgt := 30) hx hb dX8_told_21 (by decide) (fun c_21 => ?_) (fun c_21 => ?_)
  · have rw_ : rg w 3 := rg_of c_16 (fun h => by have h1 := Int32.le_iff_toInt_le.mp h; rw [nI_toInt (by decide)] at h1; have h2 := Int32.le_iff_toInt_le.mp c_21; rw [nI_toInt (by decide)] at h2; omega) (by decide)
    obtain ⟨j_w, h_w, rfl⟩ := rg_ex rw_
    have e_w := nn_nI (j := j_w) (by omega)
    refine lv_aload_n hx hb dX8_told_30 rfl (lv_at hl 0 rfl) ?_
    refine va_get (D := G) (own := RX8) (ref := "SpotRowsModel") (ci := 8) (v := .ref (b 4)) (C := RX8) (T := TX8) (N := 23) hx hb hts hinX8 hown hK.1 hP 0 rfl rfl 9 (by decide) fl31 (fun _ h9 => h9) rfl dX8_told_31 ?_
    refine lv_iload_n hx hb dX8_told_34 rfl (lv_at hl 1 rfl) ?_
    refine lv_iload_n hx hb dX8_told_35 rfl (lv_at hl 2 rfl) ?_
    refine cro_i (va_runS (As := [.int (nI j_x), .int (nI j_d)]) (rest := [.ref (b 4)]) ⟨hx, hb, hml, hown, hts⟩ (c_X8_at l G cI cJ (x := j_x) (d := j_d) ) (va_cwS 2 hts gX8_told_X8_at rfl rfl rfl (by decide +kernel) ⟨Nat.le_of_ble_eq_true rfl, Nat.le_of_ble_eq_true rfl⟩) (preS_ro (wc := []) hK hP [] rfl) rfl rfl hl.1 rfl (lv_room (Nat.le_of_ble_eq_true rfl)) dX8_told_36 ⟨Nat.zero_le _, Nat.zero_le _⟩) ?_
    refine ld_I hx hb hK hP 1 (k := j_x * 240 + j_d) rfl (by first | omega | exact Nat.le_trans (og_le tb _) (by decide)) (by decide) dX8_told_39 ?_
    refine toi (show gr (j_x * 240 + j_d) = oI (og t (j_x * 240 + j_d)) from (hG.1 (j_x * 240 + j_d) (by omega))) ?_
    refine lv_iconst (v := (-1)) hx hb dX8_told_40 (by decide) ?_
    refine no_icmp_ne (tgt := 50) hx hb dX8_told_41 (by decide) (by first | omega | exact Nat.le_trans (og_le tb _) (by decide)) (fun c_41 => ?_) (fun c_41 => ?_)
    · have t0 : t (j_x * 240 + j_d) ≠ 0 := fun h => c_41 (og_eq.mpr h)
      refine lv_aload_n hx hb dX8_told_50 rfl (lv_at hl 0 rfl) ?_
      refine lv_iconst (v := nI 0) hx hb dX8_told_51 (by decide) ?_
      refine va_put (D := G) (own := RX8) (ref := "SpotRowsModel") (ci := 8) (v := .int (nI 0)) (ty := .int) (C := RX8) (T := TX8) (N := 23) hx hb hts hinX8 tyX8 tyX8_ok nmX8 hown hK.1 hP hD hS 0 rfl rfl 0 (by decide) fl73 (fun _ h9 => h9) rfl (by decide +kernel) rfl rfl (Nat.le_of_ble_eq_true rfl) dX8_told_52 (fun H locs hP hD hS => ?_)
      have hP : va_P G vwCl [oM b (nI 0) tp bt (nI ey) le en wo, aI cI (b 4) 1920 gr, aI cI (b 5) 1920 sp] H := hP
      have hD : va_D A [oM b (nI 0) tp bt (nI ey) le en wo, aI cI (b 4) 1920 gr, aI cI (b 5) 1920 sp] := hD
      refine lv_iload_n hx hb dX8_told_55 rfl (lv_at hl 3 rfl) ?_
      refine nv_if_ne (tgt := 72) hx hb dX8_told_56 (by decide) (by first | omega | exact Nat.le_trans (og_le tb _) (by decide)) (fun c_56 => ?_) (fun c_56 => ?_)
      · refine lv_iload_n hx hb dX8_told_72 rfl (lv_at hl 3 rfl) ?_
        refine lv_iconst (v := nI 1) hx hb dX8_told_73 (by decide) ?_
        refine nv_icmp_ne (tgt := 90) hx hb dX8_told_74 (by decide) (by first | omega | exact Nat.le_trans (og_le tb _) (by decide)) (by first | omega | exact Nat.le_trans (og_le tb _) (by decide)) (fun c_74 => ?_) (fun c_74 => ?_)
        · refine lv_aload_n hx hb dX8_told_90 rfl (lv_at hl 0 rfl) ?_
          refine lv_iload_n hx hb dX8_told_91 rfl (lv_at hl 1 rfl) ?_
          refine lv_iload_n hx hb dX8_told_92 rfl (lv_at hl 2 rfl) ?_
          refine cro_i (va_runV (As := [.int (nI j_x), .int (nI j_d)]) (rest := []) ⟨hx, hb, hml, hown, hts⟩ (c_X8_number l G cI cJ (b := b) (st := nI 0) (tp := tp) (bt := bt) (ey := ey) (le := le) (en := en) (wo := wo) (t := t) (gr := gr) (sp := sp) (x := j_x) (d := j_d) (hey := by first | assumption | omega) (hG := by first | assumption | omega) (h_x := by first | assumption | omega) (h_d := by first | assumption | omega) (hn := by first | assumption | omega)) (cwV 2 hts gX8_told_X8_number rfl rfl rfl (by decide +kernel) ⟨Nat.le_of_ble_eq_true rfl, Nat.le_of_ble_eq_true rfl⟩) (preV_ro (wc := [oM b (nI 0) tp bt (nI ey) le en wo, aI cI (b 4) 1920 gr, aI cI (b 5) 1920 sp]) hK hP [0, 1, 2] rfl 8 0 rfl rfl rfl) rfl rfl hl.1 rfl (lv_room (Nat.le_of_ble_eq_true rfl)) dX8_told_93 ⟨Nat.zero_le _, Nat.zero_le _⟩) ?_
          have hP : va_P G vwCl [oM b (nI (qTold t ey (nI j_x) (nI j_d) (nI j_w))) tp bt (nI ey) le en wo, aI cI (b 4) 1920 gr, aI cI (b 5) 1920 sp] H := by
            have ew : ([oM b (nI 0) tp bt (nI ey) le en wo, aI cI (b 4) 1920 gr, aI cI (b 5) 1920 sp] : va_W) = [oM b (nI (qTold t ey (nI j_x) (nI j_d) (nI j_w))) tp bt (nI ey) le en wo, aI cI (b 4) 1920 gr, aI cI (b 5) 1920 sp] := (wvC (congrArg (fun zz => oM b zz tp bt (nI ey) le en wo) (show nI 0 = nI (qTold t ey (nI j_x) (nI j_d) (nI j_w)) from (congrArg nI (show 0 = (qTold t ey (nI j_x) (nI j_d) (nI j_w)) from by first | rfl | (simp only [qTold, rTold, og_eq, cif_T, cif_F, ctold, c_5, e_x, c_12, e_d, rw_, e_w, t0]; done) | (simp [qTold, rTold, og_eq, cif_T, cif_F, ctold, c_5, e_x, c_12, e_d, rw_, e_w, t0]; done) | (simp [qTold, rTold, og_eq, cif_T, cif_F, ctold, c_5, e_x, c_12, e_d, rw_, e_w, t0]; simp [c_16, c_21, c_41, c_56, c_74]; done) | (simp [qTold, rTold, og_eq, cif_T, cif_F, ctold, c_5, e_x, c_12, e_d, rw_, e_w, t0, c_16, c_21, c_41, c_56, c_74]; done) | omega | (simp [qTold, rTold, og_eq, cif_T, cif_F, ctold, c_5, e_x, c_12, e_d, rw_, e_w, t0]; omega) | (simp [qTold, rTold, og_eq, cif_T, cif_F, ctold, c_5, e_x, c_12, e_d, rw_, e_w, t0, c_16, c_21, c_41, c_56, c_74]; omega))))) (wvC rfl (wvC rfl rfl)))
            rw [← ew]; exact hP
          exact W.iret (v := nI (num t (j_x * 240 + j_d))) hx hb hr (fun zt ht zw => ⟨⟨_, (), rfl, ((nI_o (num t (j_x * 240 + j_d))).trans (congrArg oI (show (num t (j_x * 240 + j_d)) + 1 = (rTold t ey (nI j_x) (nI j_d) (nI j_w)) from by first | rfl | (simp only [qTold, rTold, og_eq, cif_T, cif_F, ctold, c_5, e_x, c_12, e_d, rw_, e_w, t0]; done) | (simp [qTold, rTold, og_eq, cif_T, cif_F, ctold, c_5, e_x, c_12, e_d, rw_, e_w, t0]; done) | (simp [qTold, rTold, og_eq, cif_T, cif_F, ctold, c_5, e_x, c_12, e_d, rw_, e_w, t0]; simp [c_16, c_21, c_41, c_56, c_74]; done) | (simp [qTold, rTold, og_eq, cif_T, cif_F, ctold, c_5, e_x, c_12, e_d, rw_, e_w, t0, c_16, c_21, c_41, c_56, c_74]; done) | omega | (simp [qTold, rTold, og_eq, cif_T, cif_F, ctold, c_5, e_x, c_12, e_d, rw_, e_w, t0]; omega) | (simp [qTold, rTold, og_eq, cif_T, cif_F, ctold, c_5, e_x, c_12, e_d, rw_, e_w, t0, c_16, c_21, c_41, c_56, c_74]; omega)))), by show va_P _ _ _ zt.heap; rw [ht]; exact hP⟩, by rw [hAe]; exact hS.F ht⟩) hS.2.2 dX8_told_96
        refine lv_aload_n hx hb dX8_told_77 rfl (lv_at hl 0 rfl) ?_
        refine va_get (D := G) (own := RX8) (ref := "SpotRowsModel") (ci := 8) (v := .ref (b 5)) (C := RX8) (T := TX8) (N := 23) hx hb hts hinX8 hown hK.1 hP 0 rfl rfl 10 (by decide) fl34 (fun _ h9 => h9) rfl dX8_told_78 ?_
        refine lv_iload_n hx hb dX8_told_81 rfl (lv_at hl 1 rfl) ?_
        refine lv_iload_n hx hb dX8_told_82 rfl (lv_at hl 2 rfl) ?_
        refine cro_i (va_runS (As := [.int (nI j_x), .int (nI j_d)]) (rest := [.ref (b 5)]) ⟨hx, hb, hml, hown, hts⟩ (c_X8_at l G cI cJ (x := j_x) (d := j_d) ) (va_cwS 2 hts gX8_told_X8_at rfl rfl rfl (by decide +kernel) ⟨Nat.le_of_ble_eq_true rfl, Nat.le_of_ble_eq_true rfl⟩) (preS_ro (wc := []) hK hP [] rfl) rfl rfl hl.1 rfl (lv_room (Nat.le_of_ble_eq_true rfl)) dX8_told_83 ⟨Nat.zero_le _, Nat.zero_le _⟩) ?_
        refine ld_I hx hb hK hP 2 (k := j_x * 240 + j_d) rfl (by first | omega | exact Nat.le_trans (og_le tb _) (by decide)) (by decide) dX8_told_86 ?_
        refine toi (show sp (j_x * 240 + j_d) = nI (spt t (j_x * 240 + j_d)) from (hG.2 (j_x * 240 + j_d) (by omega) t0)) ?_
        refine lv_goto (tgt := 96) hx hb dX8_told_87 (by decide) ?_
        have hP : va_P G vwCl [oM b (nI (qTold t ey (nI j_x) (nI j_d) (nI j_w))) tp bt (nI ey) le en wo, aI cI (b 4) 1920 gr, aI cI (b 5) 1920 sp] H := by
          have ew : ([oM b (nI 0) tp bt (nI ey) le en wo, aI cI (b 4) 1920 gr, aI cI (b 5) 1920 sp] : va_W) = [oM b (nI (qTold t ey (nI j_x) (nI j_d) (nI j_w))) tp bt (nI ey) le en wo, aI cI (b 4) 1920 gr, aI cI (b 5) 1920 sp] := (wvC (congrArg (fun zz => oM b zz tp bt (nI ey) le en wo) (show nI 0 = nI (qTold t ey (nI j_x) (nI j_d) (nI j_w)) from (congrArg nI (show 0 = (qTold t ey (nI j_x) (nI j_d) (nI j_w)) from by first | rfl | (simp only [qTold, rTold, og_eq, cif_T, cif_F, ctold, c_5, e_x, c_12, e_d, rw_, e_w, t0]; done) | (simp [qTold, rTold, og_eq, cif_T, cif_F, ctold, c_5, e_x, c_12, e_d, rw_, e_w, t0]; done) | (simp [qTold, rTold, og_eq, cif_T, cif_F, ctold, c_5, e_x, c_12, e_d, rw_, e_w, t0]; simp [c_16, c_21, c_41, c_56, c_74]; done) | (simp [qTold, rTold, og_eq, cif_T, cif_F, ctold, c_5, e_x, c_12, e_d, rw_, e_w, t0, c_16, c_21, c_41, c_56, c_74]; done) | omega | (simp [qTold, rTold, og_eq, cif_T, cif_F, ctold, c_5, e_x, c_12, e_d, rw_, e_w, t0]; omega) | (simp [qTold, rTold, og_eq, cif_T, cif_F, ctold, c_5, e_x, c_12, e_d, rw_, e_w, t0, c_16, c_21, c_41, c_56, c_74]; omega))))) (wvC rfl (wvC rfl rfl)))
          rw [← ew]; exact hP
        exact W.iret (v := nI (spt t (j_x * 240 + j_d))) hx hb hr (fun zt ht zw => ⟨⟨_, (), rfl, ((nI_o (spt t (j_x * 240 + j_d))).trans (congrArg oI (show (spt t (j_x * 240 + j_d)) + 1 = (rTold t ey (nI j_x) (nI j_d) (nI j_w)) from by first | rfl | (simp only [qTold, rTold, og_eq, cif_T, cif_F, ctold, c_5, e_x, c_12, e_d, rw_, e_w, t0]; done) | (simp [qTold, rTold, og_eq, cif_T, cif_F, ctold, c_5, e_x, c_12, e_d, rw_, e_w, t0]; done) | (simp [qTold, rTold, og_eq, cif_T, cif_F, ctold, c_5, e_x, c_12, e_d, rw_, e_w, t0]; simp [c_16, c_21, c_41, c_56, c_74]; done) | (simp [qTold, rTold, og_eq, cif_T, cif_F, ctold, c_5, e_x, c_12, e_d, rw_, e_w, t0, c_16, c_21, c_41, c_56, c_74]; done) | omega | (simp [qTold, rTold, og_eq, cif_T, cif_F, ctold, c_5, e_x, c_12, e_d, rw_, e_w, t0]; omega) | (simp [qTold, rTold, og_eq, cif_T, cif_F, ctold, c_5, e_x, c_12, e_d, rw_, e_w, t0, c_16, c_21, c_41, c_56, c_74]; omega)))), by show va_P _ _ _ zt.heap; rw [ht]; exact hP⟩, by rw [hAe]; exact hS.F ht⟩) hS.2.2 dX8_told_96
      refine lv_aload_n hx hb dX8_told_59 rfl (lv_at hl 0 rfl) ?_
      refine va_get (D := G) (own := RX8) (ref := "SpotRowsModel") (ci := 8) (v := .ref (b 4)) (C := RX8) (T := TX8) (N := 23) hx hb hts hinX8 hown hK.1 hP 0 rfl rfl 9 (by decide) fl31 (fun _ h9 => h9) rfl dX8_told_60 ?_
      refine lv_iload_n hx hb dX8_told_63 rfl (lv_at hl 1 rfl) ?_
      refine lv_iload_n hx hb dX8_told_64 rfl (lv_at hl 2 rfl) ?_
      refine cro_i (va_runS (As := [.int (nI j_x), .int (nI j_d)]) (rest := [.ref (b 4)]) ⟨hx, hb, hml, hown, hts⟩ (c_X8_at l G cI cJ (x := j_x) (d := j_d) ) (va_cwS 2 hts gX8_told_X8_at rfl rfl rfl (by decide +kernel) ⟨Nat.le_of_ble_eq_true rfl, Nat.le_of_ble_eq_true rfl⟩) (preS_ro (wc := []) hK hP [] rfl) rfl rfl hl.1 rfl (lv_room (Nat.le_of_ble_eq_true rfl)) dX8_told_65 ⟨Nat.zero_le _, Nat.zero_le _⟩) ?_
      refine ld_I hx hb hK hP 1 (k := j_x * 240 + j_d) rfl (by first | omega | exact Nat.le_trans (og_le tb _) (by decide)) (by decide) dX8_told_68 ?_
      refine toi (show gr (j_x * 240 + j_d) = nI (grp t (j_x * 240 + j_d)) from ((hG.1 (j_x * 240 + j_d) (by omega)).trans (og_v t0))) ?_
      refine lv_goto (tgt := 96) hx hb dX8_told_69 (by decide) ?_
      have hP : va_P G vwCl [oM b (nI (qTold t ey (nI j_x) (nI j_d) (nI j_w))) tp bt (nI ey) le en wo, aI cI (b 4) 1920 gr, aI cI (b 5) 1920 sp] H := by
        have ew : ([oM b (nI 0) tp bt (nI ey) le en wo, aI cI (b 4) 1920 gr, aI cI (b 5) 1920 sp] : va_W) = [oM b (nI (qTold t ey (nI j_x) (nI j_d) (nI j_w))) tp bt (nI ey) le en wo, aI cI (b 4) 1920 gr, aI cI (b 5) 1920 sp] := (wvC (congrArg (fun zz => oM b zz tp bt (nI ey) le en wo) (show nI 0 = nI (qTold t ey (nI j_x) (nI j_d) (nI j_w)) from (congrArg nI (show 0 = (qTold t ey (nI j_x) (nI j_d) (nI j_w)) from by first | rfl | (simp only [qTold, rTold, og_eq, cif_T, cif_F, ctold, c_5, e_x, c_12, e_d, rw_, e_w, t0]; done) | (simp [qTold, rTold, og_eq, cif_T, cif_F, ctold, c_5, e_x, c_12, e_d, rw_, e_w, t0]; done) | (simp [qTold, rTold, og_eq, cif_T, cif_F, ctold, c_5, e_x, c_12, e_d, rw_, e_w, t0]; simp [c_16, c_21, c_41, c_56]; done) | (simp [qTold, rTold, og_eq, cif_T, cif_F, ctold, c_5, e_x, c_12, e_d, rw_, e_w, t0, c_16, c_21, c_41, c_56]; done) | omega | (simp [qTold, rTold, og_eq, cif_T, cif_F, ctold, c_5, e_x, c_12, e_d, rw_, e_w, t0]; omega) | (simp [qTold, rTold, og_eq, cif_T, cif_F, ctold, c_5, e_x, c_12, e_d, rw_, e_w, t0, c_16, c_21, c_41, c_56]; omega))))) (wvC rfl (wvC rfl rfl)))
        rw [← ew]; exact hP
      exact W.iret (v := nI (grp t (j_x * 240 + j_d))) hx hb hr (fun zt ht zw => ⟨⟨_, (), rfl, ((nI_o (grp t (j_x * 240 + j_d))).trans (congrArg oI (show (grp t (j_x * 240 + j_d)) + 1 = (rTold t ey (nI j_x) (nI j_d) (nI j_w)) from by first | rfl | (simp only [qTold, rTold, og_eq, cif_T, cif_F, ctold, c_5, e_x, c_12, e_d, rw_, e_w, t0]; done) | (simp [qTold, rTold, og_eq, cif_T, cif_F, ctold, c_5, e_x, c_12, e_d, rw_, e_w, t0]; done) | (simp [qTold, rTold, og_eq, cif_T, cif_F, ctold, c_5, e_x, c_12, e_d, rw_, e_w, t0]; simp [c_16, c_21, c_41, c_56]; done) | (simp [qTold, rTold, og_eq, cif_T, cif_F, ctold, c_5, e_x, c_12, e_d, rw_, e_w, t0, c_16, c_21, c_41, c_56]; done) | omega | (simp [qTold, rTold, og_eq, cif_T, cif_F, ctold, c_5, e_x, c_12, e_d, rw_, e_w, t0]; omega) | (simp [qTold, rTold, og_eq, cif_T, cif_F, ctold, c_5, e_x, c_12, e_d, rw_, e_w, t0, c_16, c_21, c_41, c_56]; omega)))), by show va_P _ _ _ zt.heap; rw [ht]; exact hP⟩, by rw [hAe]; exact hS.F ht⟩) hS.2.2 dX8_told_96
    have t0 : t (j_x * 240 + j_d) = 0 := og_eq.mp c_41
    refine lv_aload_n hx hb dX8_told_44 rfl (lv_at hl 0 rfl) ?_
    refine lv_iconst (v := nI 5) hx hb dX8_told_45 (by decide) ?_
    refine crw_i (va_runV (As := [.int (nI 5)]) (rest := []) ⟨hx, hb, hml, hown, hts⟩ (c_X8_refuse l G cI cJ (b := b) (st := st) (tp := tp) (bt := bt) (ey := ey) (le := le) (en := en) (wo := wo) (w := nI 5) ) (cwV 1 hts gX8_told_X8_refuse rfl rfl rfl (by decide +kernel) ⟨Nat.le_of_ble_eq_true rfl, Nat.le_of_ble_eq_true rfl⟩) (preV_rw (wc := [oM b st tp bt (nI ey) le en wo]) hK hP hD [0] rfl rfl 8 0 rfl rfl rfl) rfl rfl hl.1 rfl (lv_room (Nat.le_of_ble_eq_true rfl)) dX8_told_46 ⟨Nat.zero_le _, Nat.zero_le _⟩) hP hD hS [0] rfl [b 0] (fun u => rfl) rfl (fun r_46 u_ H locs hw_46 hP hD hS => ?_)
    have hP : va_P G vwCl [oM b (nI 5) tp bt (nI ey) le en wo, aI cI (b 4) 1920 gr, aI cI (b 5) 1920 sp] H := hP
    have hD : va_D A [oM b (nI 5) tp bt (nI ey) le en wo, aI cI (b 4) 1920 gr, aI cI (b 5) 1920 sp] := hD
    refine toi hw_46 ?_
    have hP : va_P G vwCl [oM b (nI (qTold t ey (nI j_x) (nI j_d) (nI j_w))) tp bt (nI ey) le en wo, aI cI (b 4) 1920 gr, aI cI (b 5) 1920 sp] H := by
      have ew : ([oM b (nI 5) tp bt (nI ey) le en wo, aI cI (b 4) 1920 gr, aI cI (b 5) 1920 sp] : va_W) = [oM b (nI (qTold t ey (nI j_x) (nI j_d) (nI j_w))) tp bt (nI ey) le en wo, aI cI (b 4) 1920 gr, aI cI (b 5) 1920 sp] := (wvC (congrArg (fun zz => oM b zz tp bt (nI ey) le en wo) (show nI 5 = nI (qTold t ey (nI j_x) (nI j_d) (nI j_w)) from (congrArg nI (show 5 = (qTold t ey (nI j_x) (nI j_d) (nI j_w)) from by first | rfl | (simp only [qTold, rTold, og_eq, cif_T, cif_F, ctold, c_5, e_x, c_12, e_d, rw_, e_w, t0]; done) | (simp [qTold, rTold, og_eq, cif_T, cif_F, ctold, c_5, e_x, c_12, e_d, rw_, e_w, t0]; done) | (simp [qTold, rTold, og_eq, cif_T, cif_F, ctold, c_5, e_x, c_12, e_d, rw_, e_w, t0]; simp [c_16, c_21, c_41]; done) | (simp [qTold, rTold, og_eq, cif_T, cif_F, ctold, c_5, e_x, c_12, e_d, rw_, e_w, t0, c_16, c_21, c_41]; done) | omega | (simp [qTold, rTold, og_eq, cif_T, cif_F, ctold, c_5, e_x, c_12, e_d, rw_, e_w, t0]; omega) | (simp [qTold, rTold, og_eq, cif_T, cif_F, ctold, c_5, e_x, c_12, e_d, rw_, e_w, t0, c_16, c_21, c_41]; omega))))) (wvC rfl (wvC rfl rfl)))
      rw [← ew]; exact hP
    exact W.iret (v := (-1)) hx hb hr (fun zt ht zw => ⟨⟨_, (), rfl, (m1_o.trans (congrArg oI (show 0 = (rTold t ey (nI j_x) (nI j_d) (nI j_w)) from by first | rfl | (simp only [qTold, rTold, og_eq, cif_T, cif_F, ctold, c_5, e_x, c_12, e_d, rw_, e_w, t0]; done) | (simp [qTold, rTold, og_eq, cif_T, cif_F, ctold, c_5, e_x, c_12, e_d, rw_, e_w, t0]; done) | (simp [qTold, rTold, og_eq, cif_T, cif_F, ctold, c_5, e_x, c_12, e_d, rw_, e_w, t0]; simp [c_16, c_21, c_41]; done) | (simp [qTold, rTold, og_eq, cif_T, cif_F, ctold, c_5, e_x, c_12, e_d, rw_, e_w, t0, c_16, c_21, c_41]; done) | omega | (simp [qTold, rTold, og_eq, cif_T, cif_F, ctold, c_5, e_x, c_12, e_d, rw_, e_w, t0]; omega) | (simp [qTold, rTold, og_eq, cif_T, cif_F, ctold, c_5, e_x, c_12, e_d, rw_, e_w, t0, c_16, c_21, c_41]; omega)))), by show va_P _ _ _ zt.heap; rw [ht]; exact hP⟩, by rw [hAe]; exact hS.F ht⟩) hS.2.2 dX8_told_49
  have rw_ : ¬ rg w 3 := fun h => ngt_rg (Int32.not_le.mp c_21) h
  refine lv_aload_n hx hb dX8_told_24 rfl (lv_at hl 0 rfl) ?_
  refine lv_iconst (v := nI 1) hx hb dX8_told_25 (by decide) ?_
  refine crw_i (va_runV (As := [.int (nI 1)]) (rest := []) ⟨hx, hb, hml, hown, hts⟩ (c_X8_refuse l G cI cJ (b := b) (st := st) (tp := tp) (bt := bt) (ey := ey) (le := le) (en := en) (wo := wo) (w := nI 1) ) (cwV 1 hts gX8_told_X8_refuse rfl rfl rfl (by decide +kernel) ⟨Nat.le_of_ble_eq_true rfl, Nat.le_of_ble_eq_true rfl⟩) (preV_rw (wc := [oM b st tp bt (nI ey) le en wo]) hK hP hD [0] rfl rfl 8 0 rfl rfl rfl) rfl rfl hl.1 rfl (lv_room (Nat.le_of_ble_eq_true rfl)) dX8_told_26 ⟨Nat.zero_le _, Nat.zero_le _⟩) hP hD hS [0] rfl [b 0] (fun u => rfl) rfl (fun r_26 u_ H locs hw_26 hP hD hS => ?_)
  have hP : va_P G vwCl [oM b (nI 1) tp bt (nI ey) le en wo, aI cI (b 4) 1920 gr, aI cI (b 5) 1920 sp] H := hP
  have hD : va_D A [oM b (nI 1) tp bt (nI ey) le en wo, aI cI (b 4) 1920 gr, aI cI (b 5) 1920 sp] := hD
  refine toi hw_26 ?_
  have hP : va_P G vwCl [oM b (nI (qTold t ey (nI j_x) (nI j_d) w)) tp bt (nI ey) le en wo, aI cI (b 4) 1920 gr, aI cI (b 5) 1920 sp] H := by
    have ew : ([oM b (nI 1) tp bt (nI ey) le en wo, aI cI (b 4) 1920 gr, aI cI (b 5) 1920 sp] : va_W) = [oM b (nI (qTold t ey (nI j_x) (nI j_d) w)) tp bt (nI ey) le en wo, aI cI (b 4) 1920 gr, aI cI (b 5) 1920 sp] := (wvC (congrArg (fun zz => oM b zz tp bt (nI ey) le en wo) (show nI 1 = nI (qTold t ey (nI j_x) (nI j_d) w) from (congrArg nI (show 1 = (qTold t ey (nI j_x) (nI j_d) w) from by first | rfl | (simp only [qTold, rTold, og_eq, cif_T, cif_F, ctold, c_5, e_x, c_12, e_d, rw_]; done) | (simp [qTold, rTold, og_eq, cif_T, cif_F, ctold, c_5, e_x, c_12, e_d, rw_]; done) | (simp [qTold, rTold, og_eq, cif_T, cif_F, ctold, c_5, e_x, c_12, e_d, rw_]; simp [c_16, c_21]; done) | (simp [qTold, rTold, og_eq, cif_T, cif_F, ctold, c_5, e_x, c_12, e_d, rw_, c_16, c_21]; done) | omega | (simp [qTold, rTold, og_eq, cif_T, cif_F, ctold, c_5, e_x, c_12, e_d, rw_]; omega) | (simp [qTold, rTold, og_eq, cif_T, cif_F, ctold, c_5, e_x, c_12, e_d, rw_, c_16, c_21]; omega))))) (wvC rfl (wvC rfl rfl)))
    rw [← ew]; exact hP
  exact W.iret (v := (-1)) hx hb hr (fun zt ht zw => ⟨⟨_, (), rfl, (m1_o.trans (congrArg oI (show 0 = (rTold t ey (nI j_x) (nI j_d) w) from by first | rfl | (simp only [qTold, rTold, og_eq, cif_T, cif_F, ctold, c_5, e_x, c_12, e_d, rw_]; done) | (simp [qTold, rTold, og_eq, cif_T, cif_F, ctold, c_5, e_x, c_12, e_d, rw_]; done) | (simp [qTold, rTold, og_eq, cif_T, cif_F, ctold, c_5, e_x, c_12, e_d, rw_]; simp [c_16, c_21]; done) | (simp [qTold, rTold, og_eq, cif_T, cif_F, ctold, c_5, e_x, c_12, e_d, rw_, c_16, c_21]; done) | omega | (simp [qTold, rTold, og_eq, cif_T, cif_F, ctold, c_5, e_x, c_12, e_d, rw_]; omega) | (simp [qTold, rTold, og_eq, cif_T, cif_F, ctold, c_5, e_x, c_12, e_d, rw_, c_16, c_21]; omega)))), by show va_P _ _ _ zt.heap; rw [ht]; exact hP⟩, by rw [hAe]; exact hS.F ht⟩) hS.2.2 dX8_told_29

set_option maxHeartbeats 400000 in
set_option maxRecDepth 100000 in
theorem c_X8_days (l : Launch) (G : va_G) (cI cJ : ClassId) (b : Nat → Nat) (st : Int32) (tp : Int64) (bt : Int64) (ey : Nat) (le : Int32) (en : Int32) (wo : Int32) (t : Nat → Nat) (gr : Nat → Int32) (sp : Nat → Int32) (x : Int32) (tb : TB t) (hey : ey ≤ 8) (hG : GM t ey gr sp) : Met l yX8_days wsX8_days ({ frames := 1, cells := 0, slots := 0, locals := 21 }) (rwP G cI cJ [.ref (b 0), .int x] [oM b st tp bt (nI ey) le en wo, aI cI (b 4) 1920 gr]) (rwQi G [oM b st tp bt (nI ey) le en wo, aI cI (b 4) 1920 gr] (fun (r : Int32) (_ : Unit) => r = oI (rDays t ey x)) (fun (_ : Unit) => [oM b (nI (q1 (rg x ey))) tp bt (nI ey) le en wo, aI cI (b 4) 1920 gr])) 0 0 (ads [oM b st tp bt (nI ey) le en wo, aI cI (b 4) 1920 gr]) := by
  refine Met.ofW (cc := cX8_days) (maxL := 4) (ret := (some .int)) (by decide) rfl ?_
  intro pg ev s mt args below meth cd s₁ B hml hv
  obtain ⟨rfl, hP, hD0, hK⟩ := hv
  have hx := B.exec
  have hb := B.bytes
  have hr := B.returns
  have hts := atoms_spec (ws := wsX8_days) B.pre
  have hown : s.vm.findClass RX8 = some mt.cls := findClass_of_methodNamed B.named
  have hlocks := B.notSynchronized
  have hD := ads_self hD0
  generalize hAe : ads [oM b st tp bt (nI ey) le en wo, aI cI (b 4) 1920 gr] = A at hD ⊢
  have hS : va_S A s.heap s.heap [] := va_S.rf
  have hP : va_P G vwCl [oM b st tp bt (nI ey) le en wo, aI cI (b 4) 1920 gr] s.heap := hP
  have hinX8 := (show ∀ w ∈ u_ws RX8 TX8 23, w ∈ wsX8_days by decide +kernel)
  have fl73 := hts (.fieldLink RX8 73 "SpotRowsModel" "status" "I") (by decide +kernel)
  have fl31 := hts (.fieldLink RX8 31 "SpotRowsModel" "groups" "[I") (by decide +kernel)
  have hl := lv_entry ([.ref (b 0), .int x]) (n := 4) (Nat.le_of_ble_eq_true rfl)
  rw [lg_entry_eq]
  generalize (lg_sl ([.ref (b 0), .int x]) ++ List.replicate (4 - (lg_sl ([.ref (b 0), .int x])).length) Slot.unset).toArray = ls at hl ⊢
  have hl : lv_has ls 4 [(0, .ref (b 0)), (1, .int x)] := hl
  refine lv_aload_n hx hb dX8_days_0 rfl (lv_at hl 0 rfl) ?_
  refine lv_iload_n hx hb dX8_days_1 rfl (lv_at hl 1 rfl) ?_
  refine cro_i (va_runV (As := [.int x]) (rest := []) ⟨hx, hb, hml, hown, hts⟩ (c_X8_isEye l G cI cJ (b := b) (st := st) (tp := tp) (bt := bt) (ey := ey) (le := le) (en := en) (wo := wo) (x := x) (hey := by first | assumption | omega)) (cwV 1 hts gX8_days_X8_isEye rfl rfl rfl (by decide +kernel) ⟨Nat.le_of_ble_eq_true rfl, Nat.le_of_ble_eq_true rfl⟩) (preV_ro (wc := [oM b st tp bt (nI ey) le en wo]) hK hP [0] rfl 8 0 rfl rfl rfl) rfl rfl hl.1 rfl (lv_room (Nat.le_of_ble_eq_true rfl)) dX8_days_2 ⟨Nat.zero_le _, Nat.zero_le _⟩) ?_
  refine nb_if_ne (tgt := 14) hx hb dX8_days_5 (by decide) (fun c_5 => ?_) (fun c_5 => ?_)
  · obtain ⟨j_x, h_x, rfl⟩ := rg_ex c_5
    have e_x := nn_nI (j := j_x) (by omega)
    refine lv_aload_n hx hb dX8_days_14 rfl (lv_at hl 0 rfl) ?_
    refine lv_iconst (v := nI 0) hx hb dX8_days_15 (by decide) ?_
    refine va_put (D := G) (own := RX8) (ref := "SpotRowsModel") (ci := 8) (v := .int (nI 0)) (ty := .int) (C := RX8) (T := TX8) (N := 23) hx hb hts hinX8 tyX8 tyX8_ok nmX8 hown hK.1 hP hD hS 0 rfl rfl 0 (by decide) fl73 (fun _ h9 => h9) rfl (by decide +kernel) rfl rfl (Nat.le_of_ble_eq_true rfl) dX8_days_16 (fun H locs hP hD hS => ?_)
    have hP : va_P G vwCl [oM b (nI 0) tp bt (nI ey) le en wo, aI cI (b 4) 1920 gr] H := hP
    have hD : va_D A [oM b (nI 0) tp bt (nI ey) le en wo, aI cI (b 4) 1920 gr] := hD
    refine lv_iconst (v := nI 0) hx hb dX8_days_19 (by decide) ?_
    refine lv_istore_n (lv' := [(2, .int (nI 0)), (0, .ref (b 0)), (1, .int (nI j_x))]) hx hb dX8_days_20 rfl hl (by decide) rfl (fun ls hl => ?_)
    refine lv_iconst (v := nI 0) hx hb dX8_days_21 (by decide) ?_
    refine lv_istore_n (lv' := [(3, .int (nI 0)), (2, .int (nI 0)), (0, .ref (b 0)), (1, .int (nI j_x))]) hx hb dX8_days_22 rfl hl (by decide) rfl (fun ls hl => ?_)
    have lp_23 : ∀ (nf : Nat) (k : Nat), (k ≤ 240) → 240 - k < nf → ∀ (H : Heap) (locs : List Loc), va_P G vwCl [oM b (nI 0) tp bt (nI ey) le en wo, aI cI (b 4) 1920 gr] H → va_D A [oM b (nI 0) tp bt (nI ey) le en wo, aI cI (b 4) 1920 gr] → va_S A s.heap H locs → ∀ (ls : Array Slot), lv_has ls 4 [(0, .ref (b 0)), (1, .int (nI j_x)), (2, .int (nI (cD t j_x 0 k))), (3, .int (nI k))] → W pg l ev (headSpec wsX8_days ({ frames := 1, cells := 0, slots := 0, locals := 21 })).room s mt ([.ref (b 0), .int (nI j_x)] : List Value).toArray below meth cd H locs 0 0 (MQ below (rwQi G [oM b st tp bt (nI ey) le en wo, aI cI (b 4) 1920 gr] (fun (r : Int32) (_ : Unit) => r = oI (rDays t ey (nI j_x))) (fun (_ : Unit) => [oM b (nI (q1 (rg (nI j_x) ey))) tp bt (nI ey) le en wo, aI cI (b 4) 1920 gr])) ([.ref (b 0), .int (nI j_x)] : List Value).toArray s 0 0 A) (F0 mt 23 ls []) := by
      intro nf
      induction nf with
      | zero => intro k hk hfu; exact absurd hfu (Nat.not_lt_zero _)
      | succ nf ih_23 =>
        intro k hk hfu H locs hP hD hS ls hl
        refine lv_iload_n hx hb dX8_days_23 rfl (lv_at hl 3 rfl) ?_
        refine lv_sipush (v := nI 240) hx hb dX8_days_24 (by decide) ?_
        refine nv_icmp_ge (tgt := 58) hx hb dX8_days_27 (by decide) (by first | omega | exact Nat.le_trans (og_le tb _) (by decide)) (by first | omega | exact Nat.le_trans (og_le tb _) (by decide)) (fun c_27 => ?_) (fun c_27 => ?_)
        · refine lv_iload_n hx hb dX8_days_58 rfl (lv_at hl 2 rfl) ?_
          have hP : va_P G vwCl [oM b (nI (q1 (rg (nI j_x) ey))) tp bt (nI ey) le en wo, aI cI (b 4) 1920 gr] H := by
            have ew : ([oM b (nI 0) tp bt (nI ey) le en wo, aI cI (b 4) 1920 gr] : va_W) = [oM b (nI (q1 (rg (nI j_x) ey))) tp bt (nI ey) le en wo, aI cI (b 4) 1920 gr] := (wvC (congrArg (fun zz => oM b zz tp bt (nI ey) le en wo) (show nI 0 = nI (q1 (rg (nI j_x) ey)) from (congrArg nI (show 0 = (q1 (rg (nI j_x) ey)) from by simp [q1, c_5, cif_T])))) (wvC rfl rfl))
            rw [← ew]; exact hP
          exact W.iret (v := nI (cD t j_x 0 k)) hx hb hr (fun zt ht zw => ⟨⟨_, (), rfl, ((nI_o (cD t j_x 0 k)).trans (congrArg oI (show (cD t j_x 0 k) + 1 = (rDays t ey (nI j_x)) from by first | (rw [show k = 240 from by omega]; simp [rDays, q1, c_5, cif_T, e_x]; done)))), by show va_P _ _ _ zt.heap; rw [ht]; exact hP⟩, by rw [hAe]; exact hS.F ht⟩) hS.2.2 dX8_days_59
        refine lv_iload_n hx hb dX8_days_30 rfl (lv_at hl 2 rfl) ?_
        refine lv_aload_n hx hb dX8_days_31 rfl (lv_at hl 0 rfl) ?_
        refine va_get (D := G) (own := RX8) (ref := "SpotRowsModel") (ci := 8) (v := .ref (b 4)) (C := RX8) (T := TX8) (N := 23) hx hb hts hinX8 hown hK.1 hP 0 rfl rfl 9 (by decide) fl31 (fun _ h9 => h9) rfl dX8_days_32 ?_
        refine lv_iload_n hx hb dX8_days_35 rfl (lv_at hl 1 rfl) ?_
        refine lv_iload_n hx hb dX8_days_36 rfl (lv_at hl 3 rfl) ?_
        refine cro_i (va_runS (As := [.int (nI j_x), .int (nI k)]) (rest := [.ref (b 4), .int (nI (cD t j_x 0 k))]) ⟨hx, hb, hml, hown, hts⟩ (c_X8_at l G cI cJ (x := j_x) (d := k) ) (va_cwS 2 hts gX8_days_X8_at rfl rfl rfl (by decide +kernel) ⟨Nat.le_of_ble_eq_true rfl, Nat.le_of_ble_eq_true rfl⟩) (preS_ro (wc := []) hK hP [] rfl) rfl rfl hl.1 rfl (lv_room (Nat.le_of_ble_eq_true rfl)) dX8_days_37 ⟨Nat.zero_le _, Nat.zero_le _⟩) ?_
        refine ld_I hx hb hK hP 1 (k := j_x * 240 + k) rfl (by first | omega | exact Nat.le_trans (og_le tb _) (by decide)) (by decide) dX8_days_40 ?_
        refine toi (show gr (j_x * 240 + k) = oI (og t (j_x * 240 + k)) from (hG.1 (j_x * 240 + k) (by omega))) ?_
        refine lv_iconst (v := (-1)) hx hb dX8_days_41 (by decide) ?_
        refine no_icmp_ne (tgt := 49) hx hb dX8_days_42 (by decide) (by first | omega | exact Nat.le_trans (og_le tb _) (by decide)) (fun c_42 => ?_) (fun c_42 => ?_)
        · refine lv_iconst (v := nI 1) hx hb dX8_days_49 (by decide) ?_
          refine lv_iadd hx hb dX8_days_50 ?_
          refine toi (nI_add (cD t j_x 0 k) 1) ?_
          refine lv_istore_n (lv' := [(2, .int (nI (cD t j_x 0 k + 1))), (0, .ref (b 0)), (1, .int (nI j_x)), (3, .int (nI k))]) hx hb dX8_days_51 rfl hl (by decide) rfl (fun ls hl => ?_)
          refine lv_iinc (v := nI (k + 1)) (lv' := [(3, .int (nI (k + 1))), (2, .int (nI (cD t j_x 0 k + 1))), (0, .ref (b 0)), (1, .int (nI j_x))]) hx hb dX8_days_52 hl (k := 3) rfl (nI_add k 1) (by decide) rfl (fun ls hl => ?_)
          refine lv_goto (tgt := 23) hx hb dX8_days_55 (by decide) ?_
          exact ih_23 (k + 1) (by first | rfl | omega | (simp_all; done)) (by omega) H locs hP hD hS ls (lvcv (l := [(0, .ref (b 0)), (1, .int (nI j_x)), (2, .int (nI (cD t j_x 0 k + 1))), (3, .int (nI (k + 1)))]) (lv_sub hl [2, 3, 1, 0] rfl) (lvC (lvC (lvI (congrArg nI (show (cD t j_x 0 k + 1) = (cD t j_x 0 (k + 1)) from by (simp only [cD, sm_s, Nat.zero_add]); split <;> first | omega | (exfalso; rw [og_eq] at c_42; omega) | (exfalso; exact c_42 (og_eq.mpr (by assumption))))) (lvC rfl)))))
        refine lv_iconst (v := nI 0) hx hb dX8_days_45 (by decide) ?_
        refine lv_goto (tgt := 50) hx hb dX8_days_46 (by decide) ?_
        refine lv_iadd hx hb dX8_days_50 ?_
        refine toi (nI_add (cD t j_x 0 k) 0) ?_
        refine lv_istore_n (lv' := [(2, .int (nI (cD t j_x 0 k + 0))), (0, .ref (b 0)), (1, .int (nI j_x)), (3, .int (nI k))]) hx hb dX8_days_51 rfl hl (by decide) rfl (fun ls hl => ?_)
        refine lv_iinc (v := nI (k + 1)) (lv' := [(3, .int (nI (k + 1))), (2, .int (nI (cD t j_x 0 k + 0))), (0, .ref (b 0)), (1, .int (nI j_x))]) hx hb dX8_days_52 hl (k := 3) rfl (nI_add k 1) (by decide) rfl (fun ls hl => ?_)
        refine lv_goto (tgt := 23) hx hb dX8_days_55 (by decide) ?_
        exact ih_23 (k + 1) (by first | rfl | omega | (simp_all; done)) (by omega) H locs hP hD hS ls (lvcv (l := [(0, .ref (b 0)), (1, .int (nI j_x)), (2, .int (nI (cD t j_x 0 k + 0))), (3, .int (nI (k + 1)))]) (lv_sub hl [2, 3, 1, 0] rfl) (lvC (lvC (lvI (congrArg nI (show (cD t j_x 0 k + 0) = (cD t j_x 0 (k + 1)) from by (simp only [cD, sm_s, Nat.zero_add]); split <;> first | omega | (exfalso; rw [og_eq] at c_42; omega) | (exfalso; exact c_42 (og_eq.mpr (by assumption))))) (lvC rfl)))))
    exact lp_23 (240 - 0 + 1) 0 (by first | rfl | omega | (simp_all; done)) (by omega) _ _ hP hD hS ls (lvcv (l := [(0, .ref (b 0)), (1, .int (nI j_x)), (2, .int (nI 0)), (3, .int (nI 0))]) (lv_sub hl [2, 3, 1, 0] rfl) (lvC (lvC (lvI (congrArg nI (show 0 = (cD t j_x 0 0) from by rfl)) (lvC rfl)))))
  refine lv_aload_n hx hb dX8_days_8 rfl (lv_at hl 0 rfl) ?_
  refine lv_iconst (v := nI 1) hx hb dX8_days_9 (by decide) ?_
  refine crw_i (va_runV (As := [.int (nI 1)]) (rest := []) ⟨hx, hb, hml, hown, hts⟩ (c_X8_refuse l G cI cJ (b := b) (st := st) (tp := tp) (bt := bt) (ey := ey) (le := le) (en := en) (wo := wo) (w := nI 1) ) (cwV 1 hts gX8_days_X8_refuse rfl rfl rfl (by decide +kernel) ⟨Nat.le_of_ble_eq_true rfl, Nat.le_of_ble_eq_true rfl⟩) (preV_rw (wc := [oM b st tp bt (nI ey) le en wo]) hK hP hD [0] rfl rfl 8 0 rfl rfl rfl) rfl rfl hl.1 rfl (lv_room (Nat.le_of_ble_eq_true rfl)) dX8_days_10 ⟨Nat.zero_le _, Nat.zero_le _⟩) hP hD hS [0] rfl [b 0] (fun u => rfl) rfl (fun r_10 u_ H locs hw_10 hP hD hS => ?_)
  have hP : va_P G vwCl [oM b (nI 1) tp bt (nI ey) le en wo, aI cI (b 4) 1920 gr] H := hP
  have hD : va_D A [oM b (nI 1) tp bt (nI ey) le en wo, aI cI (b 4) 1920 gr] := hD
  refine toi hw_10 ?_
  have hP : va_P G vwCl [oM b (nI (q1 (rg x ey))) tp bt (nI ey) le en wo, aI cI (b 4) 1920 gr] H := by
    have ew : ([oM b (nI 1) tp bt (nI ey) le en wo, aI cI (b 4) 1920 gr] : va_W) = [oM b (nI (q1 (rg x ey))) tp bt (nI ey) le en wo, aI cI (b 4) 1920 gr] := (wvC (congrArg (fun zz => oM b zz tp bt (nI ey) le en wo) (show nI 1 = nI (q1 (rg x ey)) from (congrArg nI (show 1 = (q1 (rg x ey)) from by first | rfl | (simp only [rDays, q1, cif_T, cif_F, ctold, c_5]; done) | (simp [rDays, q1, cif_T, cif_F, ctold, c_5]; done) | omega | (simp [rDays, q1, cif_T, cif_F, ctold, c_5]; omega))))) (wvC rfl rfl))
    rw [← ew]; exact hP
  exact W.iret (v := (-1)) hx hb hr (fun zt ht zw => ⟨⟨_, (), rfl, (m1_o.trans (congrArg oI (show 0 = (rDays t ey x) from by first | rfl | (simp only [rDays, q1, cif_T, cif_F, ctold, c_5]; done) | (simp [rDays, q1, cif_T, cif_F, ctold, c_5]; done) | omega | (simp [rDays, q1, cif_T, cif_F, ctold, c_5]; omega)))), by show va_P _ _ _ zt.heap; rw [ht]; exact hP⟩, by rw [hAe]; exact hS.F ht⟩) hS.2.2 dX8_days_13

set_option maxHeartbeats 400000 in
set_option maxRecDepth 100000 in
theorem c_X8_rules (l : Launch) (G : va_G) (cI cJ : ClassId) (b : Nat → Nat) (st : Int32) (tp : Int64) (bt : Int64) (ey : Nat) (le : Nat) (en : Nat) (wo : Int32) (w : Int32) (n : Int32)  : Met l yX8_rules wsX8_rules ({ frames := 1, cells := 0, slots := 0, locals := 21 }) (rwP G cI cJ [.ref (b 0), .int w, .int n] [oM b st tp bt (nI ey) (nI le) (nI en) wo]) (rwQi G [oM b st tp bt (nI ey) (nI le) (nI en) wo] (fun (r : Int32) (_ : Unit) => r = bi (q1 (okRules w n) = 0)) (fun (_ : Unit) => [oM b (nI (q1 (okRules w n))) tp bt (nI ey) (nI (leRules le w n)) (nI (enRules en w n)) wo])) 0 0 (ads [oM b st tp bt (nI ey) (nI le) (nI en) wo]) := by
  refine Met.ofW (cc := cX8_rules) (maxL := 3) (ret := (some .boolean)) (by decide) rfl ?_
  intro pg ev s mt args below meth cd s₁ B hml hv
  obtain ⟨rfl, hP, hD0, hK⟩ := hv
  have hx := B.exec
  have hb := B.bytes
  have hr := B.returns
  have hts := atoms_spec (ws := wsX8_rules) B.pre
  have hown : s.vm.findClass RX8 = some mt.cls := findClass_of_methodNamed B.named
  have hlocks := B.notSynchronized
  have hD := ads_self hD0
  generalize hAe : ads [oM b st tp bt (nI ey) (nI le) (nI en) wo] = A at hD ⊢
  have hS : va_S A s.heap s.heap [] := va_S.rf
  have hP : va_P G vwCl [oM b st tp bt (nI ey) (nI le) (nI en) wo] s.heap := hP
  have hinX8 := (show ∀ w ∈ u_ws RX8 TX8 23, w ∈ wsX8_rules by decide +kernel)
  have fl24 := hts (.fieldLink RX8 24 "SpotRowsModel" "least" "I") (by decide +kernel)
  have fl28 := hts (.fieldLink RX8 28 "SpotRowsModel" "enough" "I") (by decide +kernel)
  have hl := lv_entry ([.ref (b 0), .int w, .int n]) (n := 3) (Nat.le_of_ble_eq_true rfl)
  rw [lg_entry_eq]
  generalize (lg_sl ([.ref (b 0), .int w, .int n]) ++ List.replicate (3 - (lg_sl ([.ref (b 0), .int w, .int n])).length) Slot.unset).toArray = ls at hl ⊢
  have hl : lv_has ls 3 [(0, .ref (b 0)), (1, .int w), (2, .int n)] := hl
  refine lv_iload_n hx hb dX8_rules_0 rfl (lv_at hl 1 rfl) ?_
  refine lv_iconst (v := nI 1) hx hb dX8_rules_1 (by decide) ?_
  refine lv_icmp_lt (tgt := 22) hx hb dX8_rules_2 (by decide) (fun c_2 => ?_) (fun c_2 => ?_)
  · refine lv_aload_n hx hb dX8_rules_22 rfl (lv_at hl 0 rfl) ?_
    refine lv_iconst (v := nI 1) hx hb dX8_rules_23 (by decide) ?_
    refine crw_i (va_runV (As := [.int (nI 1)]) (rest := []) ⟨hx, hb, hml, hown, hts⟩ (c_X8_is l G cI cJ (b := b) (st := st) (tp := tp) (bt := bt) (ey := ey) (le := nI le) (en := nI en) (wo := wo) (w := 1) (hw := by first | assumption | omega)) (cwV 1 hts gX8_rules_X8_is rfl rfl rfl (by decide +kernel) ⟨Nat.le_of_ble_eq_true rfl, Nat.le_of_ble_eq_true rfl⟩) (preV_rw (wc := [oM b st tp bt (nI ey) (nI le) (nI en) wo]) hK hP hD [0] rfl rfl 8 0 rfl rfl rfl) rfl rfl hl.1 rfl (lv_room (Nat.le_of_ble_eq_true rfl)) dX8_rules_24 ⟨Nat.zero_le _, Nat.zero_le _⟩) hP hD hS [0] rfl [b 0] (fun u => rfl) rfl (fun r_24 u_ H locs hw_24 hP hD hS => ?_)
    have hP : va_P G vwCl [oM b (nI 1) tp bt (nI ey) (nI le) (nI en) wo] H := hP
    have hD : va_D A [oM b (nI 1) tp bt (nI ey) (nI le) (nI en) wo] := hD
    refine toi hw_24 ?_
    have hP : va_P G vwCl [oM b (nI (q1 (okRules w n))) tp bt (nI ey) (nI (leRules le w n)) (nI (enRules en w n)) wo] H := by
      have ew : ([oM b (nI 1) tp bt (nI ey) (nI le) (nI en) wo] : va_W) = [oM b (nI (q1 (okRules w n))) tp bt (nI ey) (nI (leRules le w n)) (nI (enRules en w n)) wo] := (wvC (Eq.trans (Eq.trans (congrArg (fun zz => oM b zz tp bt (nI ey) (nI le) (nI en) wo) (show nI 1 = nI (q1 (okRules w n)) from (congrArg nI (show 1 = (q1 (okRules w n)) from by first | (have k := nrg2_lt (lo := 1) (hi := 100) (by decide) c_2; simp [q1, okRules, leRules, enRules, k, cif_F]; done) | (have k := nrg2_gt (lo := 1) (hi := 100) (by decide) c_8; simp [q1, okRules, leRules, enRules, k, cif_F]; done) | (have k := nrg2_lt (lo := 1) (hi := 10) (by decide) c_13; simp [q1, okRules, leRules, enRules, k, cif_F]; done) | (have k := nrg2_gt (lo := 1) (hi := 10) (by decide) (Int32.not_le.mp c_19); simp [q1, okRules, leRules, enRules, k, cif_F]; done))))) (congrArg (fun zz => oM b (nI (q1 (okRules w n))) tp bt (nI ey) zz (nI en) wo) (show nI le = nI (leRules le w n) from (congrArg nI (show le = (leRules le w n) from by first | (have k := nrg2_lt (lo := 1) (hi := 100) (by decide) c_2; simp [q1, okRules, leRules, enRules, k, cif_F]; done) | (have k := nrg2_gt (lo := 1) (hi := 100) (by decide) c_8; simp [q1, okRules, leRules, enRules, k, cif_F]; done) | (have k := nrg2_lt (lo := 1) (hi := 10) (by decide) c_13; simp [q1, okRules, leRules, enRules, k, cif_F]; done) | (have k := nrg2_gt (lo := 1) (hi := 10) (by decide) (Int32.not_le.mp c_19); simp [q1, okRules, leRules, enRules, k, cif_F]; done)))))) (congrArg (fun zz => oM b (nI (q1 (okRules w n))) tp bt (nI ey) (nI (leRules le w n)) zz wo) (show nI en = nI (enRules en w n) from (congrArg nI (show en = (enRules en w n) from by first | (have k := nrg2_lt (lo := 1) (hi := 100) (by decide) c_2; simp [q1, okRules, leRules, enRules, k, cif_F]; done) | (have k := nrg2_gt (lo := 1) (hi := 100) (by decide) c_8; simp [q1, okRules, leRules, enRules, k, cif_F]; done) | (have k := nrg2_lt (lo := 1) (hi := 10) (by decide) c_13; simp [q1, okRules, leRules, enRules, k, cif_F]; done) | (have k := nrg2_gt (lo := 1) (hi := 10) (by decide) (Int32.not_le.mp c_19); simp [q1, okRules, leRules, enRules, k, cif_F]; done)))))) rfl)
      rw [← ew]; exact hP
    exact W.zret (v := bi (1 = 0)) hx hb hr bi_nar (fun zt ht zw => ⟨⟨_, (), rfl, (bi_cong (show 1 = 0 ↔ q1 (okRules w n) = 0 from by first | (have k := nrg2_lt (lo := 1) (hi := 100) (by decide) c_2; simp [q1, okRules, leRules, enRules, k, cif_F]; done) | (have k := nrg2_gt (lo := 1) (hi := 100) (by decide) c_8; simp [q1, okRules, leRules, enRules, k, cif_F]; done) | (have k := nrg2_lt (lo := 1) (hi := 10) (by decide) c_13; simp [q1, okRules, leRules, enRules, k, cif_F]; done) | (have k := nrg2_gt (lo := 1) (hi := 10) (by decide) (Int32.not_le.mp c_19); simp [q1, okRules, leRules, enRules, k, cif_F]; done))), by show va_P _ _ _ zt.heap; rw [ht]; exact hP⟩, by rw [hAe]; exact hS.F ht⟩) hS.2.2 dX8_rules_27
  refine lv_iload_n hx hb dX8_rules_5 rfl (lv_at hl 1 rfl) ?_
  refine lv_bipush (v := nI 100) hx hb dX8_rules_6 (by decide) ?_
  refine lv_icmp_gt (tgt := 22) hx hb dX8_rules_8 (by decide) (fun c_8 => ?_) (fun c_8 => ?_)
  · refine lv_aload_n hx hb dX8_rules_22 rfl (lv_at hl 0 rfl) ?_
    refine lv_iconst (v := nI 1) hx hb dX8_rules_23 (by decide) ?_
    refine crw_i (va_runV (As := [.int (nI 1)]) (rest := []) ⟨hx, hb, hml, hown, hts⟩ (c_X8_is l G cI cJ (b := b) (st := st) (tp := tp) (bt := bt) (ey := ey) (le := nI le) (en := nI en) (wo := wo) (w := 1) (hw := by first | assumption | omega)) (cwV 1 hts gX8_rules_X8_is rfl rfl rfl (by decide +kernel) ⟨Nat.le_of_ble_eq_true rfl, Nat.le_of_ble_eq_true rfl⟩) (preV_rw (wc := [oM b st tp bt (nI ey) (nI le) (nI en) wo]) hK hP hD [0] rfl rfl 8 0 rfl rfl rfl) rfl rfl hl.1 rfl (lv_room (Nat.le_of_ble_eq_true rfl)) dX8_rules_24 ⟨Nat.zero_le _, Nat.zero_le _⟩) hP hD hS [0] rfl [b 0] (fun u => rfl) rfl (fun r_24 u_ H locs hw_24 hP hD hS => ?_)
    have hP : va_P G vwCl [oM b (nI 1) tp bt (nI ey) (nI le) (nI en) wo] H := hP
    have hD : va_D A [oM b (nI 1) tp bt (nI ey) (nI le) (nI en) wo] := hD
    refine toi hw_24 ?_
    have hP : va_P G vwCl [oM b (nI (q1 (okRules w n))) tp bt (nI ey) (nI (leRules le w n)) (nI (enRules en w n)) wo] H := by
      have ew : ([oM b (nI 1) tp bt (nI ey) (nI le) (nI en) wo] : va_W) = [oM b (nI (q1 (okRules w n))) tp bt (nI ey) (nI (leRules le w n)) (nI (enRules en w n)) wo] := (wvC (Eq.trans (Eq.trans (congrArg (fun zz => oM b zz tp bt (nI ey) (nI le) (nI en) wo) (show nI 1 = nI (q1 (okRules w n)) from (congrArg nI (show 1 = (q1 (okRules w n)) from by first | (have k := nrg2_lt (lo := 1) (hi := 100) (by decide) c_2; simp [q1, okRules, leRules, enRules, k, cif_F]; done) | (have k := nrg2_gt (lo := 1) (hi := 100) (by decide) c_8; simp [q1, okRules, leRules, enRules, k, cif_F]; done) | (have k := nrg2_lt (lo := 1) (hi := 10) (by decide) c_13; simp [q1, okRules, leRules, enRules, k, cif_F]; done) | (have k := nrg2_gt (lo := 1) (hi := 10) (by decide) (Int32.not_le.mp c_19); simp [q1, okRules, leRules, enRules, k, cif_F]; done))))) (congrArg (fun zz => oM b (nI (q1 (okRules w n))) tp bt (nI ey) zz (nI en) wo) (show nI le = nI (leRules le w n) from (congrArg nI (show le = (leRules le w n) from by first | (have k := nrg2_lt (lo := 1) (hi := 100) (by decide) c_2; simp [q1, okRules, leRules, enRules, k, cif_F]; done) | (have k := nrg2_gt (lo := 1) (hi := 100) (by decide) c_8; simp [q1, okRules, leRules, enRules, k, cif_F]; done) | (have k := nrg2_lt (lo := 1) (hi := 10) (by decide) c_13; simp [q1, okRules, leRules, enRules, k, cif_F]; done) | (have k := nrg2_gt (lo := 1) (hi := 10) (by decide) (Int32.not_le.mp c_19); simp [q1, okRules, leRules, enRules, k, cif_F]; done)))))) (congrArg (fun zz => oM b (nI (q1 (okRules w n))) tp bt (nI ey) (nI (leRules le w n)) zz wo) (show nI en = nI (enRules en w n) from (congrArg nI (show en = (enRules en w n) from by first | (have k := nrg2_lt (lo := 1) (hi := 100) (by decide) c_2; simp [q1, okRules, leRules, enRules, k, cif_F]; done) | (have k := nrg2_gt (lo := 1) (hi := 100) (by decide) c_8; simp [q1, okRules, leRules, enRules, k, cif_F]; done) | (have k := nrg2_lt (lo := 1) (hi := 10) (by decide) c_13; simp [q1, okRules, leRules, enRules, k, cif_F]; done) | (have k := nrg2_gt (lo := 1) (hi := 10) (by decide) (Int32.not_le.mp c_19); simp [q1, okRules, leRules, enRules, k, cif_F]; done)))))) rfl)
      rw [← ew]; exact hP
    exact W.zret (v := bi (1 = 0)) hx hb hr bi_nar (fun zt ht zw => ⟨⟨_, (), rfl, (bi_cong (show 1 = 0 ↔ q1 (okRules w n) = 0 from by first | (have k := nrg2_lt (lo := 1) (hi := 100) (by decide) c_2; simp [q1, okRules, leRules, enRules, k, cif_F]; done) | (have k := nrg2_gt (lo := 1) (hi := 100) (by decide) c_8; simp [q1, okRules, leRules, enRules, k, cif_F]; done) | (have k := nrg2_lt (lo := 1) (hi := 10) (by decide) c_13; simp [q1, okRules, leRules, enRules, k, cif_F]; done) | (have k := nrg2_gt (lo := 1) (hi := 10) (by decide) (Int32.not_le.mp c_19); simp [q1, okRules, leRules, enRules, k, cif_F]; done))), by show va_P _ _ _ zt.heap; rw [ht]; exact hP⟩, by rw [hAe]; exact hS.F ht⟩) hS.2.2 dX8_rules_27
  refine lv_iload_n hx hb dX8_rules_11 rfl (lv_at hl 2 rfl) ?_
  refine lv_iconst (v := nI 1) hx hb dX8_rules_12 (by decide) ?_
  refine lv_icmp_lt (tgt := 22) hx hb dX8_rules_13 (by decide) (fun c_13 => ?_) (fun c_13 => ?_)
  · refine lv_aload_n hx hb dX8_rules_22 rfl (lv_at hl 0 rfl) ?_
    refine lv_iconst (v := nI 1) hx hb dX8_rules_23 (by decide) ?_
    refine crw_i (va_runV (As := [.int (nI 1)]) (rest := []) ⟨hx, hb, hml, hown, hts⟩ (c_X8_is l G cI cJ (b := b) (st := st) (tp := tp) (bt := bt) (ey := ey) (le := nI le) (en := nI en) (wo := wo) (w := 1) (hw := by first | assumption | omega)) (cwV 1 hts gX8_rules_X8_is rfl rfl rfl (by decide +kernel) ⟨Nat.le_of_ble_eq_true rfl, Nat.le_of_ble_eq_true rfl⟩) (preV_rw (wc := [oM b st tp bt (nI ey) (nI le) (nI en) wo]) hK hP hD [0] rfl rfl 8 0 rfl rfl rfl) rfl rfl hl.1 rfl (lv_room (Nat.le_of_ble_eq_true rfl)) dX8_rules_24 ⟨Nat.zero_le _, Nat.zero_le _⟩) hP hD hS [0] rfl [b 0] (fun u => rfl) rfl (fun r_24 u_ H locs hw_24 hP hD hS => ?_)
    have hP : va_P G vwCl [oM b (nI 1) tp bt (nI ey) (nI le) (nI en) wo] H := hP
    have hD : va_D A [oM b (nI 1) tp bt (nI ey) (nI le) (nI en) wo] := hD
    refine toi hw_24 ?_
    have hP : va_P G vwCl [oM b (nI (q1 (okRules w n))) tp bt (nI ey) (nI (leRules le w n)) (nI (enRules en w n)) wo] H := by
      have ew : ([oM b (nI 1) tp bt (nI ey) (nI le) (nI en) wo] : va_W) = [oM b (nI (q1 (okRules w n))) tp bt (nI ey) (nI (leRules le w n)) (nI (enRules en w n)) wo] := (wvC (Eq.trans (Eq.trans (congrArg (fun zz => oM b zz tp bt (nI ey) (nI le) (nI en) wo) (show nI 1 = nI (q1 (okRules w n)) from (congrArg nI (show 1 = (q1 (okRules w n)) from by first | (have k := nrg2_lt (lo := 1) (hi := 100) (by decide) c_2; simp [q1, okRules, leRules, enRules, k, cif_F]; done) | (have k := nrg2_gt (lo := 1) (hi := 100) (by decide) c_8; simp [q1, okRules, leRules, enRules, k, cif_F]; done) | (have k := nrg2_lt (lo := 1) (hi := 10) (by decide) c_13; simp [q1, okRules, leRules, enRules, k, cif_F]; done) | (have k := nrg2_gt (lo := 1) (hi := 10) (by decide) (Int32.not_le.mp c_19); simp [q1, okRules, leRules, enRules, k, cif_F]; done))))) (congrArg (fun zz => oM b (nI (q1 (okRules w n))) tp bt (nI ey) zz (nI en) wo) (show nI le = nI (leRules le w n) from (congrArg nI (show le = (leRules le w n) from by first | (have k := nrg2_lt (lo := 1) (hi := 100) (by decide) c_2; simp [q1, okRules, leRules, enRules, k, cif_F]; done) | (have k := nrg2_gt (lo := 1) (hi := 100) (by decide) c_8; simp [q1, okRules, leRules, enRules, k, cif_F]; done) | (have k := nrg2_lt (lo := 1) (hi := 10) (by decide) c_13; simp [q1, okRules, leRules, enRules, k, cif_F]; done) | (have k := nrg2_gt (lo := 1) (hi := 10) (by decide) (Int32.not_le.mp c_19); simp [q1, okRules, leRules, enRules, k, cif_F]; done)))))) (congrArg (fun zz => oM b (nI (q1 (okRules w n))) tp bt (nI ey) (nI (leRules le w n)) zz wo) (show nI en = nI (enRules en w n) from (congrArg nI (show en = (enRules en w n) from by first | (have k := nrg2_lt (lo := 1) (hi := 100) (by decide) c_2; simp [q1, okRules, leRules, enRules, k, cif_F]; done) | (have k := nrg2_gt (lo := 1) (hi := 100) (by decide) c_8; simp [q1, okRules, leRules, enRules, k, cif_F]; done) | (have k := nrg2_lt (lo := 1) (hi := 10) (by decide) c_13; simp [q1, okRules, leRules, enRules, k, cif_F]; done) | (have k := nrg2_gt (lo := 1) (hi := 10) (by decide) (Int32.not_le.mp c_19); simp [q1, okRules, leRules, enRules, k, cif_F]; done)))))) rfl)
      rw [← ew]; exact hP
    exact W.zret (v := bi (1 = 0)) hx hb hr bi_nar (fun zt ht zw => ⟨⟨_, (), rfl, (bi_cong (show 1 = 0 ↔ q1 (okRules w n) = 0 from by first | (have k := nrg2_lt (lo := 1) (hi := 100) (by decide) c_2; simp [q1, okRules, leRules, enRules, k, cif_F]; done) | (have k := nrg2_gt (lo := 1) (hi := 100) (by decide) c_8; simp [q1, okRules, leRules, enRules, k, cif_F]; done) | (have k := nrg2_lt (lo := 1) (hi := 10) (by decide) c_13; simp [q1, okRules, leRules, enRules, k, cif_F]; done) | (have k := nrg2_gt (lo := 1) (hi := 10) (by decide) (Int32.not_le.mp c_19); simp [q1, okRules, leRules, enRules, k, cif_F]; done))), by show va_P _ _ _ zt.heap; rw [ht]; exact hP⟩, by rw [hAe]; exact hS.F ht⟩) hS.2.2 dX8_rules_27
  refine lv_iload_n hx hb dX8_rules_16 rfl (lv_at hl 2 rfl) ?_
  refine lv_bipush (v := nI 10) hx hb dX8_rules_17 (by decide) ?_
  refine lv_icmp_le (tgt := 28) hx hb dX8_rules_19 (by decide) (fun c_19 => ?_) (fun c_19 => ?_)
  · have k1 := rg2_of (by decide) (by decide) c_2 c_8
    have k2 := rg2_of (by decide) (by decide) c_13 (Int32.not_lt.mpr c_19)
    obtain ⟨j_w, h_w, rfl⟩ := rg2_ex k1
    have e_w := nn_nI (j := j_w) (by omega)
    obtain ⟨j_n, h_n, rfl⟩ := rg2_ex k2
    have e_n := nn_nI (j := j_n) (by omega)
    refine lv_aload_n hx hb dX8_rules_28 rfl (lv_at hl 0 rfl) ?_
    refine lv_iload_n hx hb dX8_rules_29 rfl (lv_at hl 1 rfl) ?_
    refine va_put (D := G) (own := RX8) (ref := "SpotRowsModel") (ci := 8) (v := .int (nI j_w)) (ty := .int) (C := RX8) (T := TX8) (N := 23) hx hb hts hinX8 tyX8 tyX8_ok nmX8 hown hK.1 hP hD hS 0 rfl rfl 7 (by decide) fl24 (fun _ h9 => h9) rfl (by decide +kernel) rfl rfl (Nat.le_of_ble_eq_true rfl) dX8_rules_30 (fun H locs hP hD hS => ?_)
    have hP : va_P G vwCl [oM b st tp bt (nI ey) (nI j_w) (nI en) wo] H := hP
    have hD : va_D A [oM b st tp bt (nI ey) (nI j_w) (nI en) wo] := hD
    refine lv_aload_n hx hb dX8_rules_33 rfl (lv_at hl 0 rfl) ?_
    refine lv_iload_n hx hb dX8_rules_34 rfl (lv_at hl 2 rfl) ?_
    refine va_put (D := G) (own := RX8) (ref := "SpotRowsModel") (ci := 8) (v := .int (nI j_n)) (ty := .int) (C := RX8) (T := TX8) (N := 23) hx hb hts hinX8 tyX8 tyX8_ok nmX8 hown hK.1 hP hD hS 0 rfl rfl 8 (by decide) fl28 (fun _ h9 => h9) rfl (by decide +kernel) rfl rfl (Nat.le_of_ble_eq_true rfl) dX8_rules_35 (fun H locs hP hD hS => ?_)
    have hP : va_P G vwCl [oM b st tp bt (nI ey) (nI j_w) (nI j_n) wo] H := hP
    have hD : va_D A [oM b st tp bt (nI ey) (nI j_w) (nI j_n) wo] := hD
    refine lv_aload_n hx hb dX8_rules_38 rfl (lv_at hl 0 rfl) ?_
    refine lv_iconst (v := nI 0) hx hb dX8_rules_39 (by decide) ?_
    refine crw_i (va_runV (As := [.int (nI 0)]) (rest := []) ⟨hx, hb, hml, hown, hts⟩ (c_X8_is l G cI cJ (b := b) (st := st) (tp := tp) (bt := bt) (ey := ey) (le := nI j_w) (en := nI j_n) (wo := wo) (w := 0) (hw := by first | assumption | omega)) (cwV 1 hts gX8_rules_X8_is rfl rfl rfl (by decide +kernel) ⟨Nat.le_of_ble_eq_true rfl, Nat.le_of_ble_eq_true rfl⟩) (preV_rw (wc := [oM b st tp bt (nI ey) (nI j_w) (nI j_n) wo]) hK hP hD [0] rfl rfl 8 0 rfl rfl rfl) rfl rfl hl.1 rfl (lv_room (Nat.le_of_ble_eq_true rfl)) dX8_rules_40 ⟨Nat.zero_le _, Nat.zero_le _⟩) hP hD hS [0] rfl [b 0] (fun u => rfl) rfl (fun r_40 u_ H locs hw_40 hP hD hS => ?_)
    have hP : va_P G vwCl [oM b (nI 0) tp bt (nI ey) (nI j_w) (nI j_n) wo] H := hP
    have hD : va_D A [oM b (nI 0) tp bt (nI ey) (nI j_w) (nI j_n) wo] := hD
    refine toi hw_40 ?_
    have hP : va_P G vwCl [oM b (nI (q1 (okRules (nI j_w) (nI j_n)))) tp bt (nI ey) (nI (leRules le (nI j_w) (nI j_n))) (nI (enRules en (nI j_w) (nI j_n))) wo] H := by
      have ew : ([oM b (nI 0) tp bt (nI ey) (nI j_w) (nI j_n) wo] : va_W) = [oM b (nI (q1 (okRules (nI j_w) (nI j_n)))) tp bt (nI ey) (nI (leRules le (nI j_w) (nI j_n))) (nI (enRules en (nI j_w) (nI j_n))) wo] := (wvC (Eq.trans (Eq.trans (congrArg (fun zz => oM b zz tp bt (nI ey) (nI j_w) (nI j_n) wo) (show nI 0 = nI (q1 (okRules (nI j_w) (nI j_n))) from (congrArg nI (show 0 = (q1 (okRules (nI j_w) (nI j_n))) from by simp [q1, okRules, leRules, enRules, k1, k2, e_w, e_n, cif_T])))) (congrArg (fun zz => oM b (nI (q1 (okRules (nI j_w) (nI j_n)))) tp bt (nI ey) zz (nI j_n) wo) (show nI j_w = nI (leRules le (nI j_w) (nI j_n)) from (congrArg nI (show j_w = (leRules le (nI j_w) (nI j_n)) from by simp [q1, okRules, leRules, enRules, k1, k2, e_w, e_n, cif_T]))))) (congrArg (fun zz => oM b (nI (q1 (okRules (nI j_w) (nI j_n)))) tp bt (nI ey) (nI (leRules le (nI j_w) (nI j_n))) zz wo) (show nI j_n = nI (enRules en (nI j_w) (nI j_n)) from (congrArg nI (show j_n = (enRules en (nI j_w) (nI j_n)) from by simp [q1, okRules, leRules, enRules, k1, k2, e_w, e_n, cif_T]))))) rfl)
      rw [← ew]; exact hP
    exact W.zret (v := bi (0 = 0)) hx hb hr bi_nar (fun zt ht zw => ⟨⟨_, (), rfl, (bi_cong (show 0 = 0 ↔ q1 (okRules (nI j_w) (nI j_n)) = 0 from by simp [q1, okRules, leRules, enRules, k1, k2, e_w, e_n, cif_T])), by show va_P _ _ _ zt.heap; rw [ht]; exact hP⟩, by rw [hAe]; exact hS.F ht⟩) hS.2.2 dX8_rules_43
  refine lv_aload_n hx hb dX8_rules_22 rfl (lv_at hl 0 rfl) ?_
  refine lv_iconst (v := nI 1) hx hb dX8_rules_23 (by decide) ?_
  refine crw_i (va_runV (As := [.int (nI 1)]) (rest := []) ⟨hx, hb, hml, hown, hts⟩ (c_X8_is l G cI cJ (b := b) (st := st) (tp := tp) (bt := bt) (ey := ey) (le := nI le) (en := nI en) (wo := wo) (w := 1) (hw := by first | assumption | omega)) (cwV 1 hts gX8_rules_X8_is rfl rfl rfl (by decide +kernel) ⟨Nat.le_of_ble_eq_true rfl, Nat.le_of_ble_eq_true rfl⟩) (preV_rw (wc := [oM b st tp bt (nI ey) (nI le) (nI en) wo]) hK hP hD [0] rfl rfl 8 0 rfl rfl rfl) rfl rfl hl.1 rfl (lv_room (Nat.le_of_ble_eq_true rfl)) dX8_rules_24 ⟨Nat.zero_le _, Nat.zero_le _⟩) hP hD hS [0] rfl [b 0] (fun u => rfl) rfl (fun r_24 u_ H locs hw_24 hP hD hS => ?_)
  have hP : va_P G vwCl [oM b (nI 1) tp bt (nI ey) (nI le) (nI en) wo] H := hP
  have hD : va_D A [oM b (nI 1) tp bt (nI ey) (nI le) (nI en) wo] := hD
  refine toi hw_24 ?_
  have hP : va_P G vwCl [oM b (nI (q1 (okRules w n))) tp bt (nI ey) (nI (leRules le w n)) (nI (enRules en w n)) wo] H := by
    have ew : ([oM b (nI 1) tp bt (nI ey) (nI le) (nI en) wo] : va_W) = [oM b (nI (q1 (okRules w n))) tp bt (nI ey) (nI (leRules le w n)) (nI (enRules en w n)) wo] := (wvC (Eq.trans (Eq.trans (congrArg (fun zz => oM b zz tp bt (nI ey) (nI le) (nI en) wo) (show nI 1 = nI (q1 (okRules w n)) from (congrArg nI (show 1 = (q1 (okRules w n)) from by first | (have k := nrg2_lt (lo := 1) (hi := 100) (by decide) c_2; simp [q1, okRules, leRules, enRules, k, cif_F]; done) | (have k := nrg2_gt (lo := 1) (hi := 100) (by decide) c_8; simp [q1, okRules, leRules, enRules, k, cif_F]; done) | (have k := nrg2_lt (lo := 1) (hi := 10) (by decide) c_13; simp [q1, okRules, leRules, enRules, k, cif_F]; done) | (have k := nrg2_gt (lo := 1) (hi := 10) (by decide) (Int32.not_le.mp c_19); simp [q1, okRules, leRules, enRules, k, cif_F]; done))))) (congrArg (fun zz => oM b (nI (q1 (okRules w n))) tp bt (nI ey) zz (nI en) wo) (show nI le = nI (leRules le w n) from (congrArg nI (show le = (leRules le w n) from by first | (have k := nrg2_lt (lo := 1) (hi := 100) (by decide) c_2; simp [q1, okRules, leRules, enRules, k, cif_F]; done) | (have k := nrg2_gt (lo := 1) (hi := 100) (by decide) c_8; simp [q1, okRules, leRules, enRules, k, cif_F]; done) | (have k := nrg2_lt (lo := 1) (hi := 10) (by decide) c_13; simp [q1, okRules, leRules, enRules, k, cif_F]; done) | (have k := nrg2_gt (lo := 1) (hi := 10) (by decide) (Int32.not_le.mp c_19); simp [q1, okRules, leRules, enRules, k, cif_F]; done)))))) (congrArg (fun zz => oM b (nI (q1 (okRules w n))) tp bt (nI ey) (nI (leRules le w n)) zz wo) (show nI en = nI (enRules en w n) from (congrArg nI (show en = (enRules en w n) from by first | (have k := nrg2_lt (lo := 1) (hi := 100) (by decide) c_2; simp [q1, okRules, leRules, enRules, k, cif_F]; done) | (have k := nrg2_gt (lo := 1) (hi := 100) (by decide) c_8; simp [q1, okRules, leRules, enRules, k, cif_F]; done) | (have k := nrg2_lt (lo := 1) (hi := 10) (by decide) c_13; simp [q1, okRules, leRules, enRules, k, cif_F]; done) | (have k := nrg2_gt (lo := 1) (hi := 10) (by decide) (Int32.not_le.mp c_19); simp [q1, okRules, leRules, enRules, k, cif_F]; done)))))) rfl)
    rw [← ew]; exact hP
  exact W.zret (v := bi (1 = 0)) hx hb hr bi_nar (fun zt ht zw => ⟨⟨_, (), rfl, (bi_cong (show 1 = 0 ↔ q1 (okRules w n) = 0 from by first | (have k := nrg2_lt (lo := 1) (hi := 100) (by decide) c_2; simp [q1, okRules, leRules, enRules, k, cif_F]; done) | (have k := nrg2_gt (lo := 1) (hi := 100) (by decide) c_8; simp [q1, okRules, leRules, enRules, k, cif_F]; done) | (have k := nrg2_lt (lo := 1) (hi := 10) (by decide) c_13; simp [q1, okRules, leRules, enRules, k, cif_F]; done) | (have k := nrg2_gt (lo := 1) (hi := 10) (by decide) (Int32.not_le.mp c_19); simp [q1, okRules, leRules, enRules, k, cif_F]; done))), by show va_P _ _ _ zt.heap; rw [ht]; exact hP⟩, by rw [hAe]; exact hS.F ht⟩) hS.2.2 dX8_rules_27
