set_option maxHeartbeats 400000 in
set_option maxRecDepth 100000 in
theorem c_X7_isWithin (l : Launch) (G : va_G) (cI cJ : ClassId) (x : Int32) (k : Nat) (hk : k < 2 ^ 30) : Met l yX7_isWithin wsX7_isWithin ({ frames := 0, cells := 0, slots := 0, locals := 0 }) (roP G cI cJ [.int x, .int (nI k)] []) (vp_Si (fun r => r = bi (rg x (k + 1)))) 0 0 (fun _ => False) := by
  refine Met.ofW (cc := cX7_isWithin) (maxL := 2) (ret := (some .boolean)) (by decide) rfl ?_
  intro pg ev s mt args below meth cd s₁ B hml hv
  obtain ⟨rfl, hP, hK⟩ := hv
  have hx := B.exec
  have hb := B.bytes
  have hr := B.returns
  have hts := atoms_spec (ws := wsX7_isWithin) B.pre
  have hown : s.vm.findClass RX7 = some mt.cls := findClass_of_methodNamed B.named
  have hlocks := B.notSynchronized
  have hP : va_P G vwCl [] s.heap := hP
  have hl := lv_entry ([.int x, .int (nI k)]) (n := 2) (Nat.le_of_ble_eq_true rfl)
  rw [lg_entry_eq]
  generalize (lg_sl ([.int x, .int (nI k)]) ++ List.replicate (2 - (lg_sl ([.int x, .int (nI k)])).length) Slot.unset).toArray = ls at hl ⊢
  have hl : lv_has ls 2 [(0, .int x), (1, .int (nI k))] := hl
  refine lv_iload_n hx hb dX7_isWithin_0 rfl (lv_at hl 0 rfl) ?_
  refine lv_if_lt (tgt := 13) hx hb dX7_isWithin_1 (by decide) (fun c_1 => ?_) (fun c_1 => ?_)
  · refine lv_iconst (v := nI 0) hx hb dX7_isWithin_13 (by decide) ?_
    exact W.zret (v := nI 0) hx hb hr rfl (fun zt ht zw => ⟨_, rfl, (show nI 0 = bi (rg x (k + 1)) from (bi_f (by (simp only [rg, Int32.lt_iff_toInt_lt, Int32.le_iff_toInt_le, nI_toInt (show k < 2 ^ 31 by omega), show (0 : Int32).toInt = 0 from by decide] at *); omega)).symm), ht⟩) (fun q hq => absurd hq List.not_mem_nil) dX7_isWithin_14
  refine lv_iload_n hx hb dX7_isWithin_4 rfl (lv_at hl 0 rfl) ?_
  refine lv_iload_n hx hb dX7_isWithin_5 rfl (lv_at hl 1 rfl) ?_
  refine lv_icmp_gt (tgt := 13) hx hb dX7_isWithin_6 (by decide) (fun c_6 => ?_) (fun c_6 => ?_)
  · refine lv_iconst (v := nI 0) hx hb dX7_isWithin_13 (by decide) ?_
    exact W.zret (v := nI 0) hx hb hr rfl (fun zt ht zw => ⟨_, rfl, (show nI 0 = bi (rg x (k + 1)) from (bi_f (by (simp only [rg, Int32.lt_iff_toInt_lt, Int32.le_iff_toInt_le, nI_toInt (show k < 2 ^ 31 by omega), show (0 : Int32).toInt = 0 from by decide] at *); omega)).symm), ht⟩) (fun q hq => absurd hq List.not_mem_nil) dX7_isWithin_14
  refine lv_iconst (v := nI 1) hx hb dX7_isWithin_9 (by decide) ?_
  refine lv_goto (tgt := 14) hx hb dX7_isWithin_10 (by decide) ?_
  exact W.zret (v := nI 1) hx hb hr rfl (fun zt ht zw => ⟨_, rfl, (show nI 1 = bi (rg x (k + 1)) from (bi_t (by (simp only [rg, Int32.lt_iff_toInt_lt, Int32.le_iff_toInt_le, nI_toInt (show k < 2 ^ 31 by omega), show (0 : Int32).toInt = 0 from by decide] at *); omega)).symm), ht⟩) (fun q hq => absurd hq List.not_mem_nil) dX7_isWithin_14

set_option maxHeartbeats 400000 in
set_option maxRecDepth 100000 in
theorem c_X7_isDay (l : Launch) (G : va_G) (cI cJ : ClassId) (x : Int32)  : Met l yX7_isDay wsX7_isDay ({ frames := 1, cells := 0, slots := 0, locals := 21 }) (roP G cI cJ [.int x] []) (vp_Si (fun r => r = bi (rg x 240))) 0 0 (fun _ => False) := by
  refine Met.ofW (cc := cX7_isDay) (maxL := 1) (ret := (some .boolean)) (by decide) rfl ?_
  intro pg ev s mt args below meth cd s₁ B hml hv
  obtain ⟨rfl, hP, hK⟩ := hv
  have hx := B.exec
  have hb := B.bytes
  have hr := B.returns
  have hts := atoms_spec (ws := wsX7_isDay) B.pre
  have hown : s.vm.findClass RX7 = some mt.cls := findClass_of_methodNamed B.named
  have hlocks := B.notSynchronized
  have hP : va_P G vwCl [] s.heap := hP
  have hl := lv_entry ([.int x]) (n := 1) (Nat.le_of_ble_eq_true rfl)
  rw [lg_entry_eq]
  generalize (lg_sl ([.int x]) ++ List.replicate (1 - (lg_sl ([.int x])).length) Slot.unset).toArray = ls at hl ⊢
  have hl : lv_has ls 1 [(0, .int x)] := hl
  refine lv_iload_n hx hb dX7_isDay_0 rfl (lv_at hl 0 rfl) ?_
  refine lv_sipush (v := nI 239) hx hb dX7_isDay_1 (by decide) ?_
  refine cro_i (va_runS (As := [.int x, .int (nI 239)]) (rest := []) ⟨hx, hb, hml, hown, hts⟩ (c_X7_isWithin l G cI cJ (x := x) (k := 239) (hk := by first | assumption | omega)) (va_cwS 2 hts gX7_isDay_X7_isWithin rfl rfl rfl (by decide +kernel) ⟨Nat.le_of_ble_eq_true rfl, Nat.le_of_ble_eq_true rfl⟩) (preS_ro (wc := []) hK hP [] rfl) rfl rfl hl.1 rfl (lv_room (Nat.le_of_ble_eq_true rfl)) dX7_isDay_4 ⟨Nat.zero_le _, Nat.zero_le _⟩) ?_
  exact W.zret (v := bi (rg x (239 + 1))) hx hb hr bi_nar (fun zt ht zw => ⟨_, rfl, (bi_cong (show rg x (239 + 1) ↔ rg x 240 from by first | rfl | omega | (simp_all; done))), ht⟩) (fun q hq => absurd hq List.not_mem_nil) dX7_isDay_7

set_option maxHeartbeats 400000 in
set_option maxRecDepth 100000 in
theorem c_X7_isMonth (l : Launch) (G : va_G) (cI cJ : ClassId) (x : Int32)  : Met l yX7_isMonth wsX7_isMonth ({ frames := 1, cells := 0, slots := 0, locals := 21 }) (roP G cI cJ [.int x] []) (vp_Si (fun r => r = bi (rg x 24))) 0 0 (fun _ => False) := by
  refine Met.ofW (cc := cX7_isMonth) (maxL := 1) (ret := (some .boolean)) (by decide) rfl ?_
  intro pg ev s mt args below meth cd s₁ B hml hv
  obtain ⟨rfl, hP, hK⟩ := hv
  have hx := B.exec
  have hb := B.bytes
  have hr := B.returns
  have hts := atoms_spec (ws := wsX7_isMonth) B.pre
  have hown : s.vm.findClass RX7 = some mt.cls := findClass_of_methodNamed B.named
  have hlocks := B.notSynchronized
  have hP : va_P G vwCl [] s.heap := hP
  have hl := lv_entry ([.int x]) (n := 1) (Nat.le_of_ble_eq_true rfl)
  rw [lg_entry_eq]
  generalize (lg_sl ([.int x]) ++ List.replicate (1 - (lg_sl ([.int x])).length) Slot.unset).toArray = ls at hl ⊢
  have hl : lv_has ls 1 [(0, .int x)] := hl
  refine lv_iload_n hx hb dX7_isMonth_0 rfl (lv_at hl 0 rfl) ?_
  refine lv_bipush (v := nI 23) hx hb dX7_isMonth_1 (by decide) ?_
  refine cro_i (va_runS (As := [.int x, .int (nI 23)]) (rest := []) ⟨hx, hb, hml, hown, hts⟩ (c_X7_isWithin l G cI cJ (x := x) (k := 23) (hk := by first | assumption | omega)) (va_cwS 2 hts gX7_isMonth_X7_isWithin rfl rfl rfl (by decide +kernel) ⟨Nat.le_of_ble_eq_true rfl, Nat.le_of_ble_eq_true rfl⟩) (preS_ro (wc := []) hK hP [] rfl) rfl rfl hl.1 rfl (lv_room (Nat.le_of_ble_eq_true rfl)) dX7_isMonth_3 ⟨Nat.zero_le _, Nat.zero_le _⟩) ?_
  exact W.zret (v := bi (rg x (23 + 1))) hx hb hr bi_nar (fun zt ht zw => ⟨_, rfl, (bi_cong (show rg x (23 + 1) ↔ rg x 24 from by first | rfl | omega | (simp_all; done))), ht⟩) (fun q hq => absurd hq List.not_mem_nil) dX7_isMonth_6

set_option maxHeartbeats 400000 in
set_option maxRecDepth 100000 in
theorem c_X5_has (l : Launch) (G : va_G) (cI cJ : ClassId) (a : Nat → Nat) (ey : Int32) (le : Int32) (t : Nat → Nat) (e : Nat) (d : Nat) (tb : TB t) (he : e < 8) (hd : d < 240) : Met l yX5_has wsX5_has ({ frames := 0, cells := 0, slots := 0, locals := 0 }) (roP G cI cJ [.ref (a 2), .int (nI e), .int (nI d)] [oTe a ey le, aI cI (a 11) 1920 (oF t)]) (vp_Si (fun r => r = bi (t (e * 240 + d) ≠ 0))) 0 0 (fun _ => False) := by
  refine Met.ofW (cc := cX5_has) (maxL := 3) (ret := (some .boolean)) (by decide) rfl ?_
  intro pg ev s mt args below meth cd s₁ B hml hv
  obtain ⟨rfl, hP, hK⟩ := hv
  have hx := B.exec
  have hb := B.bytes
  have hr := B.returns
  have hts := atoms_spec (ws := wsX5_has) B.pre
  have hown : s.vm.findClass RX5 = some mt.cls := findClass_of_methodNamed B.named
  have hlocks := B.notSynchronized
  have hP : va_P G vwCl [oTe a ey le, aI cI (a 11) 1920 (oF t)] s.heap := hP
  have hinX5 := (show ∀ w ∈ u_ws RX5 TX5 5, w ∈ wsX5_has by decide +kernel)
  have fl9 := hts (.fieldLink RX5 9 "SpotRows$Tellings" "codes" "[I") (by decide +kernel)
  have hl := lv_entry ([.ref (a 2), .int (nI e), .int (nI d)]) (n := 3) (Nat.le_of_ble_eq_true rfl)
  rw [lg_entry_eq]
  generalize (lg_sl ([.ref (a 2), .int (nI e), .int (nI d)]) ++ List.replicate (3 - (lg_sl ([.ref (a 2), .int (nI e), .int (nI d)])).length) Slot.unset).toArray = ls at hl ⊢
  have hl : lv_has ls 3 [(0, .ref (a 2)), (1, .int (nI e)), (2, .int (nI d))] := hl
  refine lv_aload_n hx hb dX5_has_0 rfl (lv_at hl 0 rfl) ?_
  refine va_get (D := G) (own := RX5) (ref := "SpotRows$Tellings") (ci := 5) (v := .ref (a 11)) (C := RX5) (T := TX5) (N := 5) hx hb hts hinX5 hown hK.1 hP 0 rfl rfl 0 (by decide) fl9 (fun _ h9 => h9) rfl dX5_has_1 ?_
  refine lv_iload_n hx hb dX5_has_4 rfl (lv_at hl 1 rfl) ?_
  refine lv_sipush (v := nI 240) hx hb dX5_has_5 (by decide) ?_
  refine lv_imul hx hb dX5_has_8 ?_
  refine toi (pk_mul e 240) ?_
  refine lv_iload_n hx hb dX5_has_9 rfl (lv_at hl 2 rfl) ?_
  refine lv_iadd hx hb dX5_has_10 ?_
  refine toi (nI_add (e * 240) d) ?_
  refine ld_oF hx hb hK hP 1 (k := e * 240 + d) rfl (by first | omega | exact Nat.le_trans (TB_le tb _) (by decide) | exact Nat.lt_of_le_of_lt (TB_le tb _) (by decide)) (by decide) dX5_has_11 ?_
  refine lv_iconst (v := (-1)) hx hb dX5_has_12 (by decide) ?_
  refine no_icmp_eq (tgt := 20) hx hb dX5_has_13 (by decide) (by first | omega | exact Nat.le_trans (TB_le tb _) (by decide) | exact Nat.lt_of_le_of_lt (TB_le tb _) (by decide)) (fun c_13 => ?_) (fun c_13 => ?_)
  · refine lv_iconst (v := nI 0) hx hb dX5_has_20 (by decide) ?_
    exact W.zret (v := nI 0) hx hb hr rfl (fun zt ht zw => ⟨_, rfl, (show nI 0 = bi (t (e * 240 + d) ≠ 0) from (bi_f (by first | rfl | omega | (simp_all; done))).symm), ht⟩) (fun q hq => absurd hq List.not_mem_nil) dX5_has_21
  refine lv_iconst (v := nI 1) hx hb dX5_has_16 (by decide) ?_
  refine lv_goto (tgt := 21) hx hb dX5_has_17 (by decide) ?_
  exact W.zret (v := nI 1) hx hb hr rfl (fun zt ht zw => ⟨_, rfl, (show nI 1 = bi (t (e * 240 + d) ≠ 0) from (bi_t (by first | rfl | omega | (simp_all; done))).symm), ht⟩) (fun q hq => absurd hq List.not_mem_nil) dX5_has_21

set_option maxHeartbeats 400000 in
set_option maxRecDepth 100000 in
theorem c_X5_haveBoth (l : Launch) (G : va_G) (cI cJ : ClassId) (a : Nat → Nat) (ey : Int32) (le : Int32) (t : Nat → Nat) (x : Nat) (y : Nat) (d : Nat) (tb : TB t) (h_x : x < 8) (h_y : y < 8) (hd : d < 240) : Met l yX5_haveBoth wsX5_haveBoth ({ frames := 1, cells := 0, slots := 0, locals := 22 }) (roP G cI cJ [.ref (a 2), .int (nI x), .int (nI y), .int (nI d)] [oTe a ey le, aI cI (a 11) 1920 (oF t)]) (vp_Si (fun r => r = bi (bo t x y d))) 0 0 (fun _ => False) := by
  refine Met.ofW (cc := cX5_haveBoth) (maxL := 4) (ret := (some .boolean)) (by decide) rfl ?_
  intro pg ev s mt args below meth cd s₁ B hml hv
  obtain ⟨rfl, hP, hK⟩ := hv
  have hx := B.exec
  have hb := B.bytes
  have hr := B.returns
  have hts := atoms_spec (ws := wsX5_haveBoth) B.pre
  have hown : s.vm.findClass RX5 = some mt.cls := findClass_of_methodNamed B.named
  have hlocks := B.notSynchronized
  have hP : va_P G vwCl [oTe a ey le, aI cI (a 11) 1920 (oF t)] s.heap := hP
  have hl := lv_entry ([.ref (a 2), .int (nI x), .int (nI y), .int (nI d)]) (n := 4) (Nat.le_of_ble_eq_true rfl)
  rw [lg_entry_eq]
  generalize (lg_sl ([.ref (a 2), .int (nI x), .int (nI y), .int (nI d)]) ++ List.replicate (4 - (lg_sl ([.ref (a 2), .int (nI x), .int (nI y), .int (nI d)])).length) Slot.unset).toArray = ls at hl ⊢
  have hl : lv_has ls 4 [(0, .ref (a 2)), (1, .int (nI x)), (2, .int (nI y)), (3, .int (nI d))] := hl
  refine lv_aload_n hx hb dX5_haveBoth_0 rfl (lv_at hl 0 rfl) ?_
  refine lv_iload_n hx hb dX5_haveBoth_1 rfl (lv_at hl 1 rfl) ?_
  refine lv_iload_n hx hb dX5_haveBoth_2 rfl (lv_at hl 3 rfl) ?_
  refine cro_i (va_runV (As := [.int (nI x), .int (nI d)]) (rest := []) ⟨hx, hb, hml, hown, hts⟩ (c_X5_has l G cI cJ (a := a) (ey := ey) (le := le) (t := t) (e := x) (d := d) (tb := by first | assumption | omega) (he := by first | assumption | omega) (hd := by first | assumption | omega)) (cwV 2 hts gX5_haveBoth_X5_has rfl rfl rfl (by decide +kernel) ⟨Nat.le_of_ble_eq_true rfl, Nat.le_of_ble_eq_true rfl⟩) (preV_ro (wc := [oTe a ey le, aI cI (a 11) 1920 (oF t)]) hK hP [0, 1] rfl 5 0 rfl rfl rfl) rfl rfl hl.1 rfl (lv_room (Nat.le_of_ble_eq_true rfl)) dX5_haveBoth_3 ⟨Nat.zero_le _, Nat.zero_le _⟩) ?_
  refine nb_if_eq (tgt := 22) hx hb dX5_haveBoth_6 (by decide) (fun c_6 => ?_) (fun c_6 => ?_)
  · refine lv_iconst (v := nI 0) hx hb dX5_haveBoth_22 (by decide) ?_
    exact W.zret (v := nI 0) hx hb hr rfl (fun zt ht zw => ⟨_, rfl, (show nI 0 = bi (bo t x y d) from (bi_f (by simp_all [bo])).symm), ht⟩) (fun q hq => absurd hq List.not_mem_nil) dX5_haveBoth_23
  refine lv_aload_n hx hb dX5_haveBoth_9 rfl (lv_at hl 0 rfl) ?_
  refine lv_iload_n hx hb dX5_haveBoth_10 rfl (lv_at hl 2 rfl) ?_
  refine lv_iload_n hx hb dX5_haveBoth_11 rfl (lv_at hl 3 rfl) ?_
  refine cro_i (va_runV (As := [.int (nI y), .int (nI d)]) (rest := []) ⟨hx, hb, hml, hown, hts⟩ (c_X5_has l G cI cJ (a := a) (ey := ey) (le := le) (t := t) (e := y) (d := d) (tb := by first | assumption | omega) (he := by first | assumption | omega) (hd := by first | assumption | omega)) (cwV 2 hts gX5_haveBoth_X5_has rfl rfl rfl (by decide +kernel) ⟨Nat.le_of_ble_eq_true rfl, Nat.le_of_ble_eq_true rfl⟩) (preV_ro (wc := [oTe a ey le, aI cI (a 11) 1920 (oF t)]) hK hP [0, 1] rfl 5 0 rfl rfl rfl) rfl rfl hl.1 rfl (lv_room (Nat.le_of_ble_eq_true rfl)) dX5_haveBoth_12 ⟨Nat.zero_le _, Nat.zero_le _⟩) ?_
  refine nb_if_eq (tgt := 22) hx hb dX5_haveBoth_15 (by decide) (fun c_15 => ?_) (fun c_15 => ?_)
  · refine lv_iconst (v := nI 0) hx hb dX5_haveBoth_22 (by decide) ?_
    exact W.zret (v := nI 0) hx hb hr rfl (fun zt ht zw => ⟨_, rfl, (show nI 0 = bi (bo t x y d) from (bi_f (by simp_all [bo])).symm), ht⟩) (fun q hq => absurd hq List.not_mem_nil) dX5_haveBoth_23
  refine lv_iconst (v := nI 1) hx hb dX5_haveBoth_18 (by decide) ?_
  refine lv_goto (tgt := 23) hx hb dX5_haveBoth_19 (by decide) ?_
  exact W.zret (v := nI 1) hx hb hr rfl (fun zt ht zw => ⟨_, rfl, (show nI 1 = bi (bo t x y d) from (bi_t (by simp_all [bo])).symm), ht⟩) (fun q hq => absurd hq List.not_mem_nil) dX5_haveBoth_23

set_option maxHeartbeats 400000 in
set_option maxRecDepth 100000 in
theorem c_X5_groupsOf (l : Launch) (G : va_G) (cI cJ : ClassId) (a : Nat → Nat) (ey : Int32) (le : Int32) (t : Nat → Nat) (e : Nat) (d : Nat) (tb : TB t) (he : e < 8) (hd : d < 240) (hn : t (e * 240 + d) ≠ 0) : Met l yX5_groupsOf wsX5_groupsOf ({ frames := 0, cells := 0, slots := 0, locals := 0 }) (roP G cI cJ [.ref (a 2), .int (nI e), .int (nI d)] [oTe a ey le, aI cI (a 11) 1920 (oF t)]) (vp_Si (fun r => r = nI (grp t (e * 240 + d)))) 0 0 (fun _ => False) := by
  refine Met.ofW (cc := cX5_groupsOf) (maxL := 3) (ret := (some .int)) (by decide) rfl ?_
  intro pg ev s mt args below meth cd s₁ B hml hv
  obtain ⟨rfl, hP, hK⟩ := hv
  have hx := B.exec
  have hb := B.bytes
  have hr := B.returns
  have hts := atoms_spec (ws := wsX5_groupsOf) B.pre
  have hown : s.vm.findClass RX5 = some mt.cls := findClass_of_methodNamed B.named
  have hlocks := B.notSynchronized
  have hP : va_P G vwCl [oTe a ey le, aI cI (a 11) 1920 (oF t)] s.heap := hP
  have hinX5 := (show ∀ w ∈ u_ws RX5 TX5 5, w ∈ wsX5_groupsOf by decide +kernel)
  have fl9 := hts (.fieldLink RX5 9 "SpotRows$Tellings" "codes" "[I") (by decide +kernel)
  have hl := lv_entry ([.ref (a 2), .int (nI e), .int (nI d)]) (n := 3) (Nat.le_of_ble_eq_true rfl)
  rw [lg_entry_eq]
  generalize (lg_sl ([.ref (a 2), .int (nI e), .int (nI d)]) ++ List.replicate (3 - (lg_sl ([.ref (a 2), .int (nI e), .int (nI d)])).length) Slot.unset).toArray = ls at hl ⊢
  have hl : lv_has ls 3 [(0, .ref (a 2)), (1, .int (nI e)), (2, .int (nI d))] := hl
  have tbl := TB_le tb (e * 240 + d)
  refine lv_aload_n hx hb dX5_groupsOf_0 rfl (lv_at hl 0 rfl) ?_
  refine va_get (D := G) (own := RX5) (ref := "SpotRows$Tellings") (ci := 5) (v := .ref (a 11)) (C := RX5) (T := TX5) (N := 5) hx hb hts hinX5 hown hK.1 hP 0 rfl rfl 0 (by decide) fl9 (fun _ h9 => h9) rfl dX5_groupsOf_1 ?_
  refine lv_iload_n hx hb dX5_groupsOf_4 rfl (lv_at hl 1 rfl) ?_
  refine lv_sipush (v := nI 240) hx hb dX5_groupsOf_5 (by decide) ?_
  refine lv_imul hx hb dX5_groupsOf_8 ?_
  refine toi (pk_mul e 240) ?_
  refine lv_iload_n hx hb dX5_groupsOf_9 rfl (lv_at hl 2 rfl) ?_
  refine lv_iadd hx hb dX5_groupsOf_10 ?_
  refine toi (nI_add (e * 240) d) ?_
  refine ld_oF hx hb hK hP 1 (k := e * 240 + d) rfl (by first | omega | exact Nat.le_trans (TB_le tb _) (by decide) | exact Nat.lt_of_le_of_lt (TB_le tb _) (by decide)) (by decide) dX5_groupsOf_11 ?_
  refine toi (oI_pos (by first | assumption | omega)) ?_
  refine lv_sipush (v := nI 1000) hx hb dX5_groupsOf_12 (by decide) ?_
  refine lv_idiv hx hb dX5_groupsOf_15 (nI_ne0 (by first | omega | exact Nat.le_trans (TB_le tb _) (by decide) | exact Nat.lt_of_le_of_lt (TB_le tb _) (by decide)) (by first | omega | exact Nat.le_trans (TB_le tb _) (by decide) | exact Nat.lt_of_le_of_lt (TB_le tb _) (by decide))) ?_
  refine toi (pk_div (a := (t (e * 240 + d) - 1)) (d := 1000) (by first | omega | exact Nat.le_trans (TB_le tb _) (by decide) | exact Nat.lt_of_le_of_lt (TB_le tb _) (by decide)) (by first | omega | exact Nat.le_trans (TB_le tb _) (by decide) | exact Nat.lt_of_le_of_lt (TB_le tb _) (by decide)) (by first | omega | exact Nat.le_trans (TB_le tb _) (by decide) | exact Nat.lt_of_le_of_lt (TB_le tb _) (by decide))) ?_
  exact W.iret (v := nI ((t (e * 240 + d) - 1) / 1000)) hx hb hr (fun zt ht zw => ⟨_, rfl, (congrArg nI (show (t (e * 240 + d) - 1) / 1000 = grp t (e * 240 + d) from by rfl)), ht⟩) (fun q hq => absurd hq List.not_mem_nil) dX5_groupsOf_16

set_option maxHeartbeats 400000 in
set_option maxRecDepth 100000 in
theorem c_X5_spotsOf (l : Launch) (G : va_G) (cI cJ : ClassId) (a : Nat → Nat) (ey : Int32) (le : Int32) (t : Nat → Nat) (e : Nat) (d : Nat) (tb : TB t) (he : e < 8) (hd : d < 240) (hn : t (e * 240 + d) ≠ 0) : Met l yX5_spotsOf wsX5_spotsOf ({ frames := 0, cells := 0, slots := 0, locals := 0 }) (roP G cI cJ [.ref (a 2), .int (nI e), .int (nI d)] [oTe a ey le, aI cI (a 11) 1920 (oF t)]) (vp_Si (fun r => r = nI (spt t (e * 240 + d)))) 0 0 (fun _ => False) := by
  refine Met.ofW (cc := cX5_spotsOf) (maxL := 3) (ret := (some .int)) (by decide) rfl ?_
  intro pg ev s mt args below meth cd s₁ B hml hv
  obtain ⟨rfl, hP, hK⟩ := hv
  have hx := B.exec
  have hb := B.bytes
  have hr := B.returns
  have hts := atoms_spec (ws := wsX5_spotsOf) B.pre
  have hown : s.vm.findClass RX5 = some mt.cls := findClass_of_methodNamed B.named
  have hlocks := B.notSynchronized
  have hP : va_P G vwCl [oTe a ey le, aI cI (a 11) 1920 (oF t)] s.heap := hP
  have hinX5 := (show ∀ w ∈ u_ws RX5 TX5 5, w ∈ wsX5_spotsOf by decide +kernel)
  have fl9 := hts (.fieldLink RX5 9 "SpotRows$Tellings" "codes" "[I") (by decide +kernel)
  have hl := lv_entry ([.ref (a 2), .int (nI e), .int (nI d)]) (n := 3) (Nat.le_of_ble_eq_true rfl)
  rw [lg_entry_eq]
  generalize (lg_sl ([.ref (a 2), .int (nI e), .int (nI d)]) ++ List.replicate (3 - (lg_sl ([.ref (a 2), .int (nI e), .int (nI d)])).length) Slot.unset).toArray = ls at hl ⊢
  have hl : lv_has ls 3 [(0, .ref (a 2)), (1, .int (nI e)), (2, .int (nI d))] := hl
  have tbl := TB_le tb (e * 240 + d)
  refine lv_aload_n hx hb dX5_spotsOf_0 rfl (lv_at hl 0 rfl) ?_
  refine va_get (D := G) (own := RX5) (ref := "SpotRows$Tellings") (ci := 5) (v := .ref (a 11)) (C := RX5) (T := TX5) (N := 5) hx hb hts hinX5 hown hK.1 hP 0 rfl rfl 0 (by decide) fl9 (fun _ h9 => h9) rfl dX5_spotsOf_1 ?_
  refine lv_iload_n hx hb dX5_spotsOf_4 rfl (lv_at hl 1 rfl) ?_
  refine lv_sipush (v := nI 240) hx hb dX5_spotsOf_5 (by decide) ?_
  refine lv_imul hx hb dX5_spotsOf_8 ?_
  refine toi (pk_mul e 240) ?_
  refine lv_iload_n hx hb dX5_spotsOf_9 rfl (lv_at hl 2 rfl) ?_
  refine lv_iadd hx hb dX5_spotsOf_10 ?_
  refine toi (nI_add (e * 240) d) ?_
  refine ld_oF hx hb hK hP 1 (k := e * 240 + d) rfl (by first | omega | exact Nat.le_trans (TB_le tb _) (by decide) | exact Nat.lt_of_le_of_lt (TB_le tb _) (by decide)) (by decide) dX5_spotsOf_11 ?_
  refine toi (oI_pos (by first | assumption | omega)) ?_
  refine lv_sipush (v := nI 1000) hx hb dX5_spotsOf_12 (by decide) ?_
  refine lv_irem hx hb dX5_spotsOf_15 (nI_ne0 (by first | omega | exact Nat.le_trans (TB_le tb _) (by decide) | exact Nat.lt_of_le_of_lt (TB_le tb _) (by decide)) (by first | omega | exact Nat.le_trans (TB_le tb _) (by decide) | exact Nat.lt_of_le_of_lt (TB_le tb _) (by decide))) ?_
  refine toi (pk_rem (a := (t (e * 240 + d) - 1)) (d := 1000) (by first | omega | exact Nat.le_trans (TB_le tb _) (by decide) | exact Nat.lt_of_le_of_lt (TB_le tb _) (by decide)) (by first | omega | exact Nat.le_trans (TB_le tb _) (by decide) | exact Nat.lt_of_le_of_lt (TB_le tb _) (by decide)) (by first | omega | exact Nat.le_trans (TB_le tb _) (by decide) | exact Nat.lt_of_le_of_lt (TB_le tb _) (by decide))) ?_
  exact W.iret (v := nI ((t (e * 240 + d) - 1) % 1000)) hx hb hr (fun zt ht zw => ⟨_, rfl, (congrArg nI (show (t (e * 240 + d) - 1) % 1000 = spt t (e * 240 + d) from by rfl)), ht⟩) (fun q hq => absurd hq List.not_mem_nil) dX5_spotsOf_16

set_option maxHeartbeats 400000 in
set_option maxRecDepth 100000 in
theorem c_X5_numberOf (l : Launch) (G : va_G) (cI cJ : ClassId) (a : Nat → Nat) (ey : Int32) (le : Int32) (t : Nat → Nat) (e : Nat) (d : Nat) (tb : TB t) (he : e < 8) (hd : d < 240) (hn : t (e * 240 + d) ≠ 0) : Met l yX5_numberOf wsX5_numberOf ({ frames := 1, cells := 0, slots := 0, locals := 22 }) (roP G cI cJ [.ref (a 2), .int (nI e), .int (nI d)] [oTe a ey le, aI cI (a 11) 1920 (oF t)]) (vp_Si (fun r => r = nI (num t (e * 240 + d)))) 0 0 (fun _ => False) := by
  refine Met.ofW (cc := cX5_numberOf) (maxL := 3) (ret := (some .int)) (by decide) rfl ?_
  intro pg ev s mt args below meth cd s₁ B hml hv
  obtain ⟨rfl, hP, hK⟩ := hv
  have hx := B.exec
  have hb := B.bytes
  have hr := B.returns
  have hts := atoms_spec (ws := wsX5_numberOf) B.pre
  have hown : s.vm.findClass RX5 = some mt.cls := findClass_of_methodNamed B.named
  have hlocks := B.notSynchronized
  have hP : va_P G vwCl [oTe a ey le, aI cI (a 11) 1920 (oF t)] s.heap := hP
  have hl := lv_entry ([.ref (a 2), .int (nI e), .int (nI d)]) (n := 3) (Nat.le_of_ble_eq_true rfl)
  rw [lg_entry_eq]
  generalize (lg_sl ([.ref (a 2), .int (nI e), .int (nI d)]) ++ List.replicate (3 - (lg_sl ([.ref (a 2), .int (nI e), .int (nI d)])).length) Slot.unset).toArray = ls at hl ⊢
  have hl : lv_has ls 3 [(0, .ref (a 2)), (1, .int (nI e)), (2, .int (nI d))] := hl
  refine lv_bipush (v := nI 10) hx hb dX5_numberOf_0 (by decide) ?_
  refine lv_aload_n hx hb dX5_numberOf_2 rfl (lv_at hl 0 rfl) ?_
  refine lv_iload_n hx hb dX5_numberOf_3 rfl (lv_at hl 1 rfl) ?_
  refine lv_iload_n hx hb dX5_numberOf_4 rfl (lv_at hl 2 rfl) ?_
  refine cro_i (va_runV (As := [.int (nI e), .int (nI d)]) (rest := [.int (nI 10)]) ⟨hx, hb, hml, hown, hts⟩ (c_X5_groupsOf l G cI cJ (a := a) (ey := ey) (le := le) (t := t) (e := e) (d := d) (tb := by first | assumption | omega) (he := by first | assumption | omega) (hd := by first | assumption | omega) (hn := by first | assumption | omega)) (cwV 2 hts gX5_numberOf_X5_groupsOf rfl rfl rfl (by decide +kernel) ⟨Nat.le_of_ble_eq_true rfl, Nat.le_of_ble_eq_true rfl⟩) (preV_ro (wc := [oTe a ey le, aI cI (a 11) 1920 (oF t)]) hK hP [0, 1] rfl 5 0 rfl rfl rfl) rfl rfl hl.1 rfl (lv_room (Nat.le_of_ble_eq_true rfl)) dX5_numberOf_5 ⟨Nat.zero_le _, Nat.zero_le _⟩) ?_
  refine lv_imul hx hb dX5_numberOf_8 ?_
  refine toi (pk_mul 10 (grp t (e * 240 + d))) ?_
  refine lv_aload_n hx hb dX5_numberOf_9 rfl (lv_at hl 0 rfl) ?_
  refine lv_iload_n hx hb dX5_numberOf_10 rfl (lv_at hl 1 rfl) ?_
  refine lv_iload_n hx hb dX5_numberOf_11 rfl (lv_at hl 2 rfl) ?_
  refine cro_i (va_runV (As := [.int (nI e), .int (nI d)]) (rest := [.int (nI (10 * grp t (e * 240 + d)))]) ⟨hx, hb, hml, hown, hts⟩ (c_X5_spotsOf l G cI cJ (a := a) (ey := ey) (le := le) (t := t) (e := e) (d := d) (tb := by first | assumption | omega) (he := by first | assumption | omega) (hd := by first | assumption | omega) (hn := by first | assumption | omega)) (cwV 2 hts gX5_numberOf_X5_spotsOf rfl rfl rfl (by decide +kernel) ⟨Nat.le_of_ble_eq_true rfl, Nat.le_of_ble_eq_true rfl⟩) (preV_ro (wc := [oTe a ey le, aI cI (a 11) 1920 (oF t)]) hK hP [0, 1] rfl 5 0 rfl rfl rfl) rfl rfl hl.1 rfl (lv_room (Nat.le_of_ble_eq_true rfl)) dX5_numberOf_12 ⟨Nat.zero_le _, Nat.zero_le _⟩) ?_
  refine lv_iadd hx hb dX5_numberOf_15 ?_
  refine toi (nI_add (10 * grp t (e * 240 + d)) (spt t (e * 240 + d))) ?_
  exact W.iret (v := nI (10 * grp t (e * 240 + d) + spt t (e * 240 + d))) hx hb hr (fun zt ht zw => ⟨_, rfl, (congrArg nI (show 10 * grp t (e * 240 + d) + spt t (e * 240 + d) = num t (e * 240 + d) from by rfl)), ht⟩) (fun q hq => absurd hq List.not_mem_nil) dX5_numberOf_16

set_option maxHeartbeats 400000 in
set_option maxRecDepth 100000 in
theorem c_X5_countDays (l : Launch) (G : va_G) (cI cJ : ClassId) (a : Nat → Nat) (ey : Int32) (le : Int32) (t : Nat → Nat) (e : Nat) (lo : Nat) (hi : Nat) (tb : TB t) (he : e < 8) (h_l : lo ≤ hi) (hh : hi < 240) : Met l yX5_countDays wsX5_countDays ({ frames := 1, cells := 0, slots := 0, locals := 22 }) (roP G cI cJ [.ref (a 2), .int (nI e), .int (nI lo), .int (nI hi)] [oTe a ey le, aI cI (a 11) 1920 (oF t)]) (vp_Si (fun r => r = nI (cD t e lo (hi + 1 - lo)))) 0 0 (fun _ => False) := by
  refine Met.ofW (cc := cX5_countDays) (maxL := 6) (ret := (some .int)) (by decide) rfl ?_
  intro pg ev s mt args below meth cd s₁ B hml hv
  obtain ⟨rfl, hP, hK⟩ := hv
  have hx := B.exec
  have hb := B.bytes
  have hr := B.returns
  have hts := atoms_spec (ws := wsX5_countDays) B.pre
  have hown : s.vm.findClass RX5 = some mt.cls := findClass_of_methodNamed B.named
  have hlocks := B.notSynchronized
  have hP : va_P G vwCl [oTe a ey le, aI cI (a 11) 1920 (oF t)] s.heap := hP
  have hl := lv_entry ([.ref (a 2), .int (nI e), .int (nI lo), .int (nI hi)]) (n := 6) (Nat.le_of_ble_eq_true rfl)
  rw [lg_entry_eq]
  generalize (lg_sl ([.ref (a 2), .int (nI e), .int (nI lo), .int (nI hi)]) ++ List.replicate (6 - (lg_sl ([.ref (a 2), .int (nI e), .int (nI lo), .int (nI hi)])).length) Slot.unset).toArray = ls at hl ⊢
  have hl : lv_has ls 6 [(0, .ref (a 2)), (1, .int (nI e)), (2, .int (nI lo)), (3, .int (nI hi))] := hl
  refine lv_iconst (v := nI 0) hx hb dX5_countDays_0 (by decide) ?_
  refine lv_istore (lv' := [(4, .int (nI 0)), (0, .ref (a 2)), (1, .int (nI e)), (2, .int (nI lo)), (3, .int (nI hi))]) hx hb dX5_countDays_1 hl (by decide) rfl (fun ls hl => ?_)
  refine lv_iload_n hx hb dX5_countDays_3 rfl (lv_at hl 3 rfl) ?_
  refine lv_istore (lv' := [(5, .int (nI lo)), (4, .int (nI 0)), (0, .ref (a 2)), (1, .int (nI e)), (2, .int (nI lo)), (3, .int (nI hi))]) hx hb dX5_countDays_4 hl (by decide) rfl (fun ls hl => ?_)
  have lp_6 : ∀ (nf : Nat) (k : Nat), lo + k ≤ hi + 1 → hi + 1 - (lo + k) < nf → ∀ (ls : Array Slot), lv_has ls 6 [(0, .ref (a 2)), (1, .int (nI e)), (2, .int (nI lo)), (3, .int (nI hi)), (4, .int (nI (cD t e lo k))), (5, .int (nI (lo + k)))] → W pg l ev (headSpec wsX5_countDays ({ frames := 1, cells := 0, slots := 0, locals := 22 })).room s mt ([.ref (a 2), .int (nI e), .int (nI lo), .int (nI hi)] : List Value).toArray below meth cd s.heap [] 0 0 (MQ below (vp_Si (fun r => r = nI (cD t e lo (hi + 1 - lo)))) ([.ref (a 2), .int (nI e), .int (nI lo), .int (nI hi)] : List Value).toArray s 0 0 (fun _ => False)) (F0 mt 6 ls []) := by
    intro nf
    induction nf with
    | zero => intro k hk hfu; exact absurd hfu (Nat.not_lt_zero _)
    | succ nf ih_6 =>
      intro k hk hfu ls hl
      have hc := cD_le t e lo k
      refine lv_iload hx hb dX5_countDays_6 (lv_at hl 5 rfl) ?_
      refine lv_iload_n hx hb dX5_countDays_8 rfl (lv_at hl 3 rfl) ?_
      refine nv_icmp_gt (tgt := 31) hx hb dX5_countDays_9 (by decide) (by first | omega | exact Nat.le_trans (TB_le tb _) (by decide) | exact Nat.lt_of_le_of_lt (TB_le tb _) (by decide)) (by first | omega | exact Nat.le_trans (TB_le tb _) (by decide) | exact Nat.lt_of_le_of_lt (TB_le tb _) (by decide)) (fun c_9 => ?_) (fun c_9 => ?_)
      · refine lv_iload hx hb dX5_countDays_31 (lv_at hl 4 rfl) ?_
        exact W.iret (v := nI (cD t e lo k)) hx hb hr (fun zt ht zw => ⟨_, rfl, (congrArg nI (show cD t e lo k = cD t e lo (hi + 1 - lo) from by congr 1; omega)), ht⟩) (fun q hq => absurd hq List.not_mem_nil) dX5_countDays_33
      refine lv_aload_n hx hb dX5_countDays_12 rfl (lv_at hl 0 rfl) ?_
      refine lv_iload_n hx hb dX5_countDays_13 rfl (lv_at hl 1 rfl) ?_
      refine lv_iload hx hb dX5_countDays_14 (lv_at hl 5 rfl) ?_
      refine cro_i (va_runV (As := [.int (nI e), .int (nI (lo + k))]) (rest := []) ⟨hx, hb, hml, hown, hts⟩ (c_X5_has l G cI cJ (a := a) (ey := ey) (le := le) (t := t) (e := e) (d := lo + k) (tb := by first | assumption | omega) (he := by first | assumption | omega) (hd := by first | assumption | omega)) (cwV 2 hts gX5_countDays_X5_has rfl rfl rfl (by decide +kernel) ⟨Nat.le_of_ble_eq_true rfl, Nat.le_of_ble_eq_true rfl⟩) (preV_ro (wc := [oTe a ey le, aI cI (a 11) 1920 (oF t)]) hK hP [0, 1] rfl 5 0 rfl rfl rfl) rfl rfl hl.1 rfl (lv_room (Nat.le_of_ble_eq_true rfl)) dX5_countDays_16 ⟨Nat.zero_le _, Nat.zero_le _⟩) ?_
      refine nb_if_eq (tgt := 25) hx hb dX5_countDays_19 (by decide) (fun c_19 => ?_) (fun c_19 => ?_)
      · refine lv_iinc (v := nI (lo + k + 1)) (lv' := [(5, .int (nI (lo + k + 1))), (0, .ref (a 2)), (1, .int (nI e)), (2, .int (nI lo)), (3, .int (nI hi)), (4, .int (nI (cD t e lo k)))]) hx hb dX5_countDays_25 hl (k := 5) rfl (nI_add (lo + k) 1) (by decide) rfl (fun ls hl => ?_)
        refine lv_goto (tgt := 6) hx hb dX5_countDays_28 (by decide) ?_
        exact ih_6 (k + 1) (by first | rfl | omega | (simp_all; done)) (by omega) ls (lvcv (l := [(0, .ref (a 2)), (1, .int (nI e)), (2, .int (nI lo)), (3, .int (nI hi)), (4, .int (nI (cD t e lo k))), (5, .int (nI (lo + k + 1)))]) (lv_sub hl [1, 2, 3, 4, 5, 0] rfl) (lvC (lvC (lvC (lvC (lvI (congrArg nI (show cD t e lo k = cD t e lo (k + 1) from by first | rfl | (simp only [cD, sm_s]; split <;> first | omega | (simp_all; done) | (simp_all; omega)))) (lvI (congrArg nI (show lo + k + 1 = lo + (k + 1) from by first | rfl | omega | (simp_all; done))) rfl)))))))
      refine lv_iinc (v := nI (cD t e lo k + 1)) (lv' := [(4, .int (nI (cD t e lo k + 1))), (0, .ref (a 2)), (1, .int (nI e)), (2, .int (nI lo)), (3, .int (nI hi)), (5, .int (nI (lo + k)))]) hx hb dX5_countDays_22 hl (k := 4) rfl (nI_add (cD t e lo k) 1) (by decide) rfl (fun ls hl => ?_)
      refine lv_iinc (v := nI (lo + k + 1)) (lv' := [(5, .int (nI (lo + k + 1))), (4, .int (nI (cD t e lo k + 1))), (0, .ref (a 2)), (1, .int (nI e)), (2, .int (nI lo)), (3, .int (nI hi))]) hx hb dX5_countDays_25 hl (k := 5) rfl (nI_add (lo + k) 1) (by decide) rfl (fun ls hl => ?_)
      refine lv_goto (tgt := 6) hx hb dX5_countDays_28 (by decide) ?_
      exact ih_6 (k + 1) (by first | rfl | omega | (simp_all; done)) (by omega) ls (lvcv (l := [(0, .ref (a 2)), (1, .int (nI e)), (2, .int (nI lo)), (3, .int (nI hi)), (4, .int (nI (cD t e lo k + 1))), (5, .int (nI (lo + k + 1)))]) (lv_sub hl [2, 3, 4, 5, 1, 0] rfl) (lvC (lvC (lvC (lvC (lvI (congrArg nI (show cD t e lo k + 1 = cD t e lo (k + 1) from by first | rfl | (simp only [cD, sm_s]; split <;> first | omega | (simp_all; done) | (simp_all; omega)))) (lvI (congrArg nI (show lo + k + 1 = lo + (k + 1) from by first | rfl | omega | (simp_all; done))) rfl)))))))
  exact lp_6 (hi + 1 - (lo + 0) + 1) 0 (by first | rfl | omega | (simp_all; done)) (by omega) ls (lvcv (l := [(0, .ref (a 2)), (1, .int (nI e)), (2, .int (nI lo)), (3, .int (nI hi)), (4, .int (nI 0)), (5, .int (nI lo))]) (lv_sub hl [2, 3, 4, 5, 1, 0] rfl) (lvC (lvC (lvC (lvC (lvI (congrArg nI (show 0 = cD t e lo 0 from by first | rfl | (simp only [cD, sm_s]; split <;> first | omega | (simp_all; done) | (simp_all; omega)))) (lvI (congrArg nI (show lo = lo + 0 from by first | rfl | omega | (simp_all; done))) rfl)))))))

set_option maxHeartbeats 400000 in
set_option maxRecDepth 100000 in
theorem c_X5_countActive (l : Launch) (G : va_G) (cI cJ : ClassId) (a : Nat → Nat) (ey : Int32) (le : Int32) (t : Nat → Nat) (e : Nat) (lo : Nat) (hi : Nat) (tb : TB t) (he : e < 8) (h_l : lo ≤ hi) (hh : hi < 240) : Met l yX5_countActive wsX5_countActive ({ frames := 1, cells := 0, slots := 0, locals := 22 }) (roP G cI cJ [.ref (a 2), .int (nI e), .int (nI lo), .int (nI hi)] [oTe a ey le, aI cI (a 11) 1920 (oF t)]) (vp_Si (fun r => r = nI (cA t e lo (hi + 1 - lo)))) 0 0 (fun _ => False) := by
  refine Met.ofW (cc := cX5_countActive) (maxL := 6) (ret := (some .int)) (by decide) rfl ?_
  intro pg ev s mt args below meth cd s₁ B hml hv
  obtain ⟨rfl, hP, hK⟩ := hv
  have hx := B.exec
  have hb := B.bytes
  have hr := B.returns
  have hts := atoms_spec (ws := wsX5_countActive) B.pre
  have hown : s.vm.findClass RX5 = some mt.cls := findClass_of_methodNamed B.named
  have hlocks := B.notSynchronized
  have hP : va_P G vwCl [oTe a ey le, aI cI (a 11) 1920 (oF t)] s.heap := hP
  have hl := lv_entry ([.ref (a 2), .int (nI e), .int (nI lo), .int (nI hi)]) (n := 6) (Nat.le_of_ble_eq_true rfl)
  rw [lg_entry_eq]
  generalize (lg_sl ([.ref (a 2), .int (nI e), .int (nI lo), .int (nI hi)]) ++ List.replicate (6 - (lg_sl ([.ref (a 2), .int (nI e), .int (nI lo), .int (nI hi)])).length) Slot.unset).toArray = ls at hl ⊢
  have hl : lv_has ls 6 [(0, .ref (a 2)), (1, .int (nI e)), (2, .int (nI lo)), (3, .int (nI hi))] := hl
  refine lv_iconst (v := nI 0) hx hb dX5_countActive_0 (by decide) ?_
  refine lv_istore (lv' := [(4, .int (nI 0)), (0, .ref (a 2)), (1, .int (nI e)), (2, .int (nI lo)), (3, .int (nI hi))]) hx hb dX5_countActive_1 hl (by decide) rfl (fun ls hl => ?_)
  refine lv_iload_n hx hb dX5_countActive_3 rfl (lv_at hl 3 rfl) ?_
  refine lv_istore (lv' := [(5, .int (nI lo)), (4, .int (nI 0)), (0, .ref (a 2)), (1, .int (nI e)), (2, .int (nI lo)), (3, .int (nI hi))]) hx hb dX5_countActive_4 hl (by decide) rfl (fun ls hl => ?_)
  have lp_6 : ∀ (nf : Nat) (k : Nat), lo + k ≤ hi + 1 → hi + 1 - (lo + k) < nf → ∀ (ls : Array Slot), lv_has ls 6 [(0, .ref (a 2)), (1, .int (nI e)), (2, .int (nI lo)), (3, .int (nI hi)), (4, .int (nI (cA t e lo k))), (5, .int (nI (lo + k)))] → W pg l ev (headSpec wsX5_countActive ({ frames := 1, cells := 0, slots := 0, locals := 22 })).room s mt ([.ref (a 2), .int (nI e), .int (nI lo), .int (nI hi)] : List Value).toArray below meth cd s.heap [] 0 0 (MQ below (vp_Si (fun r => r = nI (cA t e lo (hi + 1 - lo)))) ([.ref (a 2), .int (nI e), .int (nI lo), .int (nI hi)] : List Value).toArray s 0 0 (fun _ => False)) (F0 mt 6 ls []) := by
    intro nf
    induction nf with
    | zero => intro k hk hfu; exact absurd hfu (Nat.not_lt_zero _)
    | succ nf ih_6 =>
      intro k hk hfu ls hl
      have hc := cA_le t e lo k
      have hg := grp_le tb (e * 240 + (lo + k))
      refine lv_iload hx hb dX5_countActive_6 (lv_at hl 5 rfl) ?_
      refine lv_iload_n hx hb dX5_countActive_8 rfl (lv_at hl 3 rfl) ?_
      refine nv_icmp_gt (tgt := 41) hx hb dX5_countActive_9 (by decide) (by first | omega | exact Nat.le_trans (TB_le tb _) (by decide) | exact Nat.lt_of_le_of_lt (TB_le tb _) (by decide)) (by first | omega | exact Nat.le_trans (TB_le tb _) (by decide) | exact Nat.lt_of_le_of_lt (TB_le tb _) (by decide)) (fun c_9 => ?_) (fun c_9 => ?_)
      · refine lv_iload hx hb dX5_countActive_41 (lv_at hl 4 rfl) ?_
        exact W.iret (v := nI (cA t e lo k)) hx hb hr (fun zt ht zw => ⟨_, rfl, (congrArg nI (show cA t e lo k = cA t e lo (hi + 1 - lo) from by congr 1; omega)), ht⟩) (fun q hq => absurd hq List.not_mem_nil) dX5_countActive_43
      refine lv_aload_n hx hb dX5_countActive_12 rfl (lv_at hl 0 rfl) ?_
      refine lv_iload_n hx hb dX5_countActive_13 rfl (lv_at hl 1 rfl) ?_
      refine lv_iload hx hb dX5_countActive_14 (lv_at hl 5 rfl) ?_
      refine cro_i (va_runV (As := [.int (nI e), .int (nI (lo + k))]) (rest := []) ⟨hx, hb, hml, hown, hts⟩ (c_X5_has l G cI cJ (a := a) (ey := ey) (le := le) (t := t) (e := e) (d := lo + k) (tb := by first | assumption | omega) (he := by first | assumption | omega) (hd := by first | assumption | omega)) (cwV 2 hts gX5_countActive_X5_has rfl rfl rfl (by decide +kernel) ⟨Nat.le_of_ble_eq_true rfl, Nat.le_of_ble_eq_true rfl⟩) (preV_ro (wc := [oTe a ey le, aI cI (a 11) 1920 (oF t)]) hK hP [0, 1] rfl 5 0 rfl rfl rfl) rfl rfl hl.1 rfl (lv_room (Nat.le_of_ble_eq_true rfl)) dX5_countActive_16 ⟨Nat.zero_le _, Nat.zero_le _⟩) ?_
      refine nb_if_eq (tgt := 35) hx hb dX5_countActive_19 (by decide) (fun c_19 => ?_) (fun c_19 => ?_)
      · refine lv_iinc (v := nI (lo + k + 1)) (lv' := [(5, .int (nI (lo + k + 1))), (0, .ref (a 2)), (1, .int (nI e)), (2, .int (nI lo)), (3, .int (nI hi)), (4, .int (nI (cA t e lo k)))]) hx hb dX5_countActive_35 hl (k := 5) rfl (nI_add (lo + k) 1) (by decide) rfl (fun ls hl => ?_)
        refine lv_goto (tgt := 6) hx hb dX5_countActive_38 (by decide) ?_
        exact ih_6 (k + 1) (by first | rfl | omega | (simp_all; done)) (by omega) ls (lvcv (l := [(0, .ref (a 2)), (1, .int (nI e)), (2, .int (nI lo)), (3, .int (nI hi)), (4, .int (nI (cA t e lo k))), (5, .int (nI (lo + k + 1)))]) (lv_sub hl [1, 2, 3, 4, 5, 0] rfl) (lvC (lvC (lvC (lvC (lvI (congrArg nI (show cA t e lo k = cA t e lo (k + 1) from by first | rfl | (simp only [cA, sm_s]; split <;> first | omega | (simp_all; done) | (simp_all; omega)))) (lvI (congrArg nI (show lo + k + 1 = lo + (k + 1) from by first | rfl | omega | (simp_all; done))) rfl)))))))
      refine lv_aload_n hx hb dX5_countActive_22 rfl (lv_at hl 0 rfl) ?_
      refine lv_iload_n hx hb dX5_countActive_23 rfl (lv_at hl 1 rfl) ?_
      refine lv_iload hx hb dX5_countActive_24 (lv_at hl 5 rfl) ?_
      refine cro_i (va_runV (As := [.int (nI e), .int (nI (lo + k))]) (rest := []) ⟨hx, hb, hml, hown, hts⟩ (c_X5_groupsOf l G cI cJ (a := a) (ey := ey) (le := le) (t := t) (e := e) (d := lo + k) (tb := by first | assumption | omega) (he := by first | assumption | omega) (hd := by first | assumption | omega) (hn := by first | assumption | omega)) (cwV 2 hts gX5_countActive_X5_groupsOf rfl rfl rfl (by decide +kernel) ⟨Nat.le_of_ble_eq_true rfl, Nat.le_of_ble_eq_true rfl⟩) (preV_ro (wc := [oTe a ey le, aI cI (a 11) 1920 (oF t)]) hK hP [0, 1] rfl 5 0 rfl rfl rfl) rfl rfl hl.1 rfl (lv_room (Nat.le_of_ble_eq_true rfl)) dX5_countActive_26 ⟨Nat.zero_le _, Nat.zero_le _⟩) ?_
      refine nv_if_le (tgt := 35) hx hb dX5_countActive_29 (by decide) (by first | omega | exact Nat.le_trans (TB_le tb _) (by decide) | exact Nat.lt_of_le_of_lt (TB_le tb _) (by decide)) (fun c_29 => ?_) (fun c_29 => ?_)
      · refine lv_iinc (v := nI (lo + k + 1)) (lv' := [(5, .int (nI (lo + k + 1))), (0, .ref (a 2)), (1, .int (nI e)), (2, .int (nI lo)), (3, .int (nI hi)), (4, .int (nI (cA t e lo k)))]) hx hb dX5_countActive_35 hl (k := 5) rfl (nI_add (lo + k) 1) (by decide) rfl (fun ls hl => ?_)
        refine lv_goto (tgt := 6) hx hb dX5_countActive_38 (by decide) ?_
        exact ih_6 (k + 1) (by first | rfl | omega | (simp_all; done)) (by omega) ls (lvcv (l := [(0, .ref (a 2)), (1, .int (nI e)), (2, .int (nI lo)), (3, .int (nI hi)), (4, .int (nI (cA t e lo k))), (5, .int (nI (lo + k + 1)))]) (lv_sub hl [1, 2, 3, 4, 5, 0] rfl) (lvC (lvC (lvC (lvC (lvI (congrArg nI (show cA t e lo k = cA t e lo (k + 1) from by first | rfl | (simp only [cA, sm_s]; split <;> first | omega | (simp_all; done) | (simp_all; omega)))) (lvI (congrArg nI (show lo + k + 1 = lo + (k + 1) from by first | rfl | omega | (simp_all; done))) rfl)))))))
      refine lv_iinc (v := nI (cA t e lo k + 1)) (lv' := [(4, .int (nI (cA t e lo k + 1))), (0, .ref (a 2)), (1, .int (nI e)), (2, .int (nI lo)), (3, .int (nI hi)), (5, .int (nI (lo + k)))]) hx hb dX5_countActive_32 hl (k := 4) rfl (nI_add (cA t e lo k) 1) (by decide) rfl (fun ls hl => ?_)
      refine lv_iinc (v := nI (lo + k + 1)) (lv' := [(5, .int (nI (lo + k + 1))), (4, .int (nI (cA t e lo k + 1))), (0, .ref (a 2)), (1, .int (nI e)), (2, .int (nI lo)), (3, .int (nI hi))]) hx hb dX5_countActive_35 hl (k := 5) rfl (nI_add (lo + k) 1) (by decide) rfl (fun ls hl => ?_)
      refine lv_goto (tgt := 6) hx hb dX5_countActive_38 (by decide) ?_
      exact ih_6 (k + 1) (by first | rfl | omega | (simp_all; done)) (by omega) ls (lvcv (l := [(0, .ref (a 2)), (1, .int (nI e)), (2, .int (nI lo)), (3, .int (nI hi)), (4, .int (nI (cA t e lo k + 1))), (5, .int (nI (lo + k + 1)))]) (lv_sub hl [2, 3, 4, 5, 1, 0] rfl) (lvC (lvC (lvC (lvC (lvI (congrArg nI (show cA t e lo k + 1 = cA t e lo (k + 1) from by first | rfl | (simp only [cA, sm_s]; split <;> first | omega | (simp_all; done) | (simp_all; omega)))) (lvI (congrArg nI (show lo + k + 1 = lo + (k + 1) from by first | rfl | omega | (simp_all; done))) rfl)))))))
  exact lp_6 (hi + 1 - (lo + 0) + 1) 0 (by first | rfl | omega | (simp_all; done)) (by omega) ls (lvcv (l := [(0, .ref (a 2)), (1, .int (nI e)), (2, .int (nI lo)), (3, .int (nI hi)), (4, .int (nI 0)), (5, .int (nI lo))]) (lv_sub hl [2, 3, 4, 5, 1, 0] rfl) (lvC (lvC (lvC (lvC (lvI (congrArg nI (show 0 = cA t e lo 0 from by first | rfl | (simp only [cA, sm_s]; split <;> first | omega | (simp_all; done) | (simp_all; omega)))) (lvI (congrArg nI (show lo = lo + 0 from by first | rfl | omega | (simp_all; done))) rfl)))))))
