set_option maxHeartbeats 400000 in
set_option maxRecDepth 100000 in
theorem c_X5_canBeTold (l : Launch) (G : va_G) (cI cJ : ClassId) (g : Int32) (k : Int32)  : Met l yX5_canBeTold wsX5_canBeTold ({ frames := 1, cells := 0, slots := 0, locals := 21 }) (roP G cI cJ [.int g, .int k] []) (vp_Si (fun r => r = bi (ctold g k))) 0 0 (fun _ => False) := by
  refine Met.ofW (cc := cX5_canBeTold) (maxL := 2) (ret := (some .boolean)) (by decide) rfl ?_
  intro pg ev s mt args below meth cd s₁ B hml hv
  obtain ⟨rfl, hP, hK⟩ := hv
  have hx := B.exec
  have hb := B.bytes
  have hr := B.returns
  have hts := atoms_spec (ws := wsX5_canBeTold) B.pre
  have hown : s.vm.findClass RX5 = some mt.cls := findClass_of_methodNamed B.named
  have hlocks := B.notSynchronized
  have hP : va_P G vwCl [] s.heap := hP
  have hl := lv_entry ([.int g, .int k]) (n := 2) (Nat.le_of_ble_eq_true rfl)
  rw [lg_entry_eq]
  generalize (lg_sl ([.int g, .int k]) ++ List.replicate (2 - (lg_sl ([.int g, .int k])).length) Slot.unset).toArray = ls at hl ⊢
  have hl : lv_has ls 2 [(0, .int g), (1, .int k)] := hl
  refine lv_iload_n hx hb dX5_canBeTold_0 rfl (lv_at hl 0 rfl) ?_
  refine lv_bipush (v := nI 20) hx hb dX5_canBeTold_1 (by decide) ?_
  refine cro_i (va_runSN (As := [.int g, .int (nI 20)]) (rest := []) ⟨hx, hb, hml, hown, hts⟩ (c_X7_isWithin l G cI cJ (x := g) (k := 20) (hk := by first | assumption | omega)) ⟨va_cnB 2 hts gX5_canBeTold_X7_isWithin_n34 rfl rfl rfl (hK.2.1 (.methodLinkNest "SpotRows$Tellings" 34 yX7_isWithin "SpotRows") (by decide +kernel)) (hts (.initialized yX7_isWithin.cls) (by decide +kernel)) (by decide +kernel) ⟨Nat.le_of_ble_eq_true rfl, Nat.le_of_ble_eq_true rfl⟩, hts (.static yX7_isWithin) (by decide +kernel), trivial⟩ (preS_ro (wc := []) hK hP [] rfl) rfl rfl hl.1 rfl (lv_room (Nat.le_of_ble_eq_true rfl)) dX5_canBeTold_3 ⟨Nat.zero_le _, Nat.zero_le _⟩) ?_
  refine nb_if_eq (tgt := 28) hx hb dX5_canBeTold_6 (by decide) (fun c_6 => ?_) (fun c_6 => ?_)
  · refine lv_iconst (v := nI 0) hx hb dX5_canBeTold_28 (by decide) ?_
    exact W.zret (v := nI 0) hx hb hr rfl (fun zt ht zw => ⟨_, rfl, (show nI 0 = bi (ctold g k) from (bi_f (by (try simp only [Int32.lt_iff_toInt_lt] at *); simp only [ctold, rg] at *; omega)).symm), ht⟩) (fun q hq => absurd hq List.not_mem_nil) dX5_canBeTold_29
  refine lv_iload_n hx hb dX5_canBeTold_9 rfl (lv_at hl 1 rfl) ?_
  refine lv_sipush (v := nI 200) hx hb dX5_canBeTold_10 (by decide) ?_
  refine cro_i (va_runSN (As := [.int k, .int (nI 200)]) (rest := []) ⟨hx, hb, hml, hown, hts⟩ (c_X7_isWithin l G cI cJ (x := k) (k := 200) (hk := by first | assumption | omega)) ⟨va_cnB 2 hts gX5_canBeTold_X7_isWithin_n34 rfl rfl rfl (hK.2.1 (.methodLinkNest "SpotRows$Tellings" 34 yX7_isWithin "SpotRows") (by decide +kernel)) (hts (.initialized yX7_isWithin.cls) (by decide +kernel)) (by decide +kernel) ⟨Nat.le_of_ble_eq_true rfl, Nat.le_of_ble_eq_true rfl⟩, hts (.static yX7_isWithin) (by decide +kernel), trivial⟩ (preS_ro (wc := []) hK hP [] rfl) rfl rfl hl.1 rfl (lv_room (Nat.le_of_ble_eq_true rfl)) dX5_canBeTold_13 ⟨Nat.zero_le _, Nat.zero_le _⟩) ?_
  refine nb_if_eq (tgt := 28) hx hb dX5_canBeTold_16 (by decide) (fun c_16 => ?_) (fun c_16 => ?_)
  · refine lv_iconst (v := nI 0) hx hb dX5_canBeTold_28 (by decide) ?_
    exact W.zret (v := nI 0) hx hb hr rfl (fun zt ht zw => ⟨_, rfl, (show nI 0 = bi (ctold g k) from (bi_f (by (try simp only [Int32.lt_iff_toInt_lt] at *); simp only [ctold, rg] at *; omega)).symm), ht⟩) (fun q hq => absurd hq List.not_mem_nil) dX5_canBeTold_29
  refine lv_iload_n hx hb dX5_canBeTold_19 rfl (lv_at hl 1 rfl) ?_
  refine lv_iload_n hx hb dX5_canBeTold_20 rfl (lv_at hl 0 rfl) ?_
  refine lv_icmp_lt (tgt := 28) hx hb dX5_canBeTold_21 (by decide) (fun c_21 => ?_) (fun c_21 => ?_)
  · refine lv_iconst (v := nI 0) hx hb dX5_canBeTold_28 (by decide) ?_
    exact W.zret (v := nI 0) hx hb hr rfl (fun zt ht zw => ⟨_, rfl, (show nI 0 = bi (ctold g k) from (bi_f (by (try simp only [Int32.lt_iff_toInt_lt] at *); simp only [ctold, rg] at *; omega)).symm), ht⟩) (fun q hq => absurd hq List.not_mem_nil) dX5_canBeTold_29
  refine lv_iconst (v := nI 1) hx hb dX5_canBeTold_24 (by decide) ?_
  refine lv_goto (tgt := 29) hx hb dX5_canBeTold_25 (by decide) ?_
  exact W.zret (v := nI 1) hx hb hr rfl (fun zt ht zw => ⟨_, rfl, (show nI 1 = bi (ctold g k) from (bi_t (by (try simp only [Int32.lt_iff_toInt_lt] at *); simp only [ctold, rg] at *; omega)).symm), ht⟩) (fun q hq => absurd hq List.not_mem_nil) dX5_canBeTold_29

set_option maxHeartbeats 400000 in
set_option maxRecDepth 100000 in
theorem c_X5_isCode (l : Launch) (G : va_G) (cI cJ : ClassId) (v : Int64)  : Met l yX5_isCode wsX5_isCode ({ frames := 2, cells := 0, slots := 0, locals := 42 }) (roP G cI cJ [.long v] []) (vp_Si (fun r => r = bi (okc v))) 0 0 (fun _ => False) := by
  refine Met.ofW (cc := cX5_isCode) (maxL := 3) (ret := (some .boolean)) (by decide) rfl ?_
  intro pg ev s mt args below meth cd s₁ B hml hv
  obtain ⟨rfl, hP, hK⟩ := hv
  have hx := B.exec
  have hb := B.bytes
  have hr := B.returns
  have hts := atoms_spec (ws := wsX5_isCode) B.pre
  have hown : s.vm.findClass RX5 = some mt.cls := findClass_of_methodNamed B.named
  have hlocks := B.notSynchronized
  have hP : va_P G vwCl [] s.heap := hP
  have hl := lv_entry ([.long v]) (n := 3) (Nat.le_of_ble_eq_true rfl)
  rw [lg_entry_eq]
  generalize (lg_sl ([.long v]) ++ List.replicate (3 - (lg_sl ([.long v])).length) Slot.unset).toArray = ls at hl ⊢
  have hl : lv_has ls 3 [(0, .long v)] := hl
  refine lv_lload_n hx hb dX5_isCode_0 rfl (lv_at hl 0 rfl) ?_
  refine lv_ldc2 (own := RX5) (v := -1) hx hb hown (hts (.constantLong RX5 38 (-1)) (by decide +kernel)) dX5_isCode_1 ?_
  refine rl_if_ne (tgt := 10) hx hb dX5_isCode_4 dX5_isCode_5 (by decide) (fun c_5 => ?_) (fun c_5 => ?_)
  · refine lv_lload_n hx hb dX5_isCode_10 rfl (lv_at hl 0 rfl) ?_
    refine lv_lconst (v := lN 0) hx hb dX5_isCode_11 (by decide) ?_
    refine rl_if_lt (tgt := 24) hx hb dX5_isCode_12 dX5_isCode_13 (by decide) (fun c_13 => ?_) (fun c_13 => ?_)
    · refine lv_iconst (v := nI 0) hx hb dX5_isCode_24 (by decide) ?_
      exact W.zret (v := nI 0) hx hb hr rfl (fun zt ht zw => ⟨_, rfl, (show nI 0 = bi (okc v) from (bi_f (by first | exact okc_no c_5 (Or.inl c_13) | exact okc_no c_5 (Or.inr c_21))).symm), ht⟩) (fun q hq => absurd hq List.not_mem_nil) dX5_isCode_25
    refine lv_lload_n hx hb dX5_isCode_16 rfl (lv_at hl 0 rfl) ?_
    refine lv_ldc2 (own := RX5) (v := 20200) hx hb hown (hts (.constantLong RX5 40 (20200)) (by decide +kernel)) dX5_isCode_17 ?_
    refine tol (show (20200 : Int64) = lN 20200 by decide) ?_
    refine rl_if_le (tgt := 26) hx hb dX5_isCode_20 dX5_isCode_21 (by decide) (fun c_21 => ?_) (fun c_21 => ?_)
    · obtain ⟨w, hw, rfl⟩ := okc_ex c_13 c_21
      refine lv_lload_n hx hb dX5_isCode_26 rfl (lv_at hl 0 rfl) ?_
      refine lv_l2i (v := nI w) hx hb dX5_isCode_27 (lN_i w) ?_
      refine lv_istore_n (lv' := [(2, .int (nI w)), (0, .long (lN w))]) hx hb dX5_isCode_28 rfl hl (by decide) rfl (fun ls hl => ?_)
      refine lv_iload_n hx hb dX5_isCode_29 rfl (lv_at hl 0 rfl) ?_
      refine lv_sipush (v := nI 1000) hx hb dX5_isCode_30 (by decide) ?_
      refine lv_idiv hx hb dX5_isCode_33 (nI_ne0 (by omega) (by omega)) ?_
      refine toi (pk_div (a := w) (d := 1000) (by omega) (by omega) (by omega)) ?_
      refine lv_iload_n hx hb dX5_isCode_34 rfl (lv_at hl 0 rfl) ?_
      refine lv_sipush (v := nI 1000) hx hb dX5_isCode_35 (by decide) ?_
      refine lv_irem hx hb dX5_isCode_38 (nI_ne0 (by omega) (by omega)) ?_
      refine toi (pk_rem (a := w) (d := 1000) (by omega) (by omega) (by omega)) ?_
      refine cro_i (va_runS (As := [.int (nI (w / 1000)), .int (nI (w % 1000))]) (rest := []) ⟨hx, hb, hml, hown, hts⟩ (c_X5_canBeTold l G cI cJ (g := nI (w / 1000)) (k := nI (w % 1000)) ) (va_cwS 2 hts gX5_isCode_X5_canBeTold rfl rfl rfl (by decide +kernel) ⟨Nat.le_of_ble_eq_true rfl, Nat.le_of_ble_eq_true rfl⟩) (preS_ro (wc := []) hK hP [] rfl) rfl rfl hl.1 rfl (lv_room (Nat.le_of_ble_eq_true rfl)) dX5_isCode_39 ⟨Nat.zero_le _, Nat.zero_le _⟩) ?_
      exact W.zret (v := bi (ctold (nI (w / 1000)) (nI (w % 1000)))) hx hb hr bi_nar (fun zt ht zw => ⟨_, rfl, (bi_cong (show ctold (nI (w / 1000)) (nI (w % 1000)) ↔ okc (lN w) from by rw [okc_lN hw, ctold_nI (by omega) (by omega)]; unfold okn; omega)), ht⟩) (fun q hq => absurd hq List.not_mem_nil) dX5_isCode_42
    refine lv_iconst (v := nI 0) hx hb dX5_isCode_24 (by decide) ?_
    exact W.zret (v := nI 0) hx hb hr rfl (fun zt ht zw => ⟨_, rfl, (show nI 0 = bi (okc v) from (bi_f (by first | exact okc_no c_5 (Or.inl c_13) | exact okc_no c_5 (Or.inr c_21))).symm), ht⟩) (fun q hq => absurd hq List.not_mem_nil) dX5_isCode_25
  refine lv_iconst (v := nI 1) hx hb dX5_isCode_8 (by decide) ?_
  exact W.zret (v := nI 1) hx hb hr rfl (fun zt ht zw => ⟨_, rfl, (show nI 1 = bi (okc v) from (bi_t (by exact Or.inl c_5)).symm), ht⟩) (fun q hq => absurd hq List.not_mem_nil) dX5_isCode_9

set_option maxHeartbeats 400000 in
set_option maxRecDepth 100000 in
theorem c_X5_addEye (l : Launch) (G : va_G) (cI cJ : ClassId) (a : Nat → Nat) (ey : Nat) (le : Int32) (hey : ey < 8) : Met l yX5_addEye wsX5_addEye ({ frames := 0, cells := 0, slots := 0, locals := 0 }) (rwP G cI cJ [.ref (a 2)] [oTe a (nI ey) le]) (rwQi G [oTe a (nI ey) le] (fun (r : Int32) (_ : Unit) => r = nI ey) (fun (_ : Unit) => [oTe a (nI (ey + 1)) le])) 0 0 (ads [oTe a (nI ey) le]) := by
  refine Met.ofW (cc := cX5_addEye) (maxL := 1) (ret := (some .int)) (by decide) rfl ?_
  intro pg ev s mt args below meth cd s₁ B hml hv
  obtain ⟨rfl, hP, hD0, hK⟩ := hv
  have hx := B.exec
  have hb := B.bytes
  have hr := B.returns
  have hts := atoms_spec (ws := wsX5_addEye) B.pre
  have hown : s.vm.findClass RX5 = some mt.cls := findClass_of_methodNamed B.named
  have hlocks := B.notSynchronized
  have hD := ads_self hD0
  generalize hAe : ads [oTe a (nI ey) le] = A at hD ⊢
  have hS : va_S A s.heap s.heap [] := va_S.rf
  have hP : va_P G vwCl [oTe a (nI ey) le] s.heap := hP
  have hinX5 := (show ∀ w ∈ u_ws RX5 TX5 5, w ∈ wsX5_addEye by decide +kernel)
  have fl27 := hts (.fieldLink RX5 27 "SpotRows$Tellings" "eyes" "I") (by decide +kernel)
  have hl := lv_entry ([.ref (a 2)]) (n := 1) (Nat.le_of_ble_eq_true rfl)
  rw [lg_entry_eq]
  generalize (lg_sl ([.ref (a 2)]) ++ List.replicate (1 - (lg_sl ([.ref (a 2)])).length) Slot.unset).toArray = ls at hl ⊢
  have hl : lv_has ls 1 [(0, .ref (a 2))] := hl
  refine lv_aload_n hx hb dX5_addEye_0 rfl (lv_at hl 0 rfl) ?_
  refine lv_dup hx hb dX5_addEye_1 rfl ?_
  refine va_get (D := G) (own := RX5) (ref := "SpotRows$Tellings") (ci := 5) (v := .int (nI ey)) (C := RX5) (T := TX5) (N := 5) hx hb hts hinX5 hown hK.1 hP 0 rfl rfl 3 (by decide) fl27 (fun _ h9 => h9) rfl dX5_addEye_2 ?_
  refine lv_iconst (v := nI 1) hx hb dX5_addEye_5 (by decide) ?_
  refine lv_iadd hx hb dX5_addEye_6 ?_
  refine toi (nI_add ey 1) ?_
  refine va_put (D := G) (own := RX5) (ref := "SpotRows$Tellings") (ci := 5) (v := .int (nI (ey + 1))) (ty := .int) (C := RX5) (T := TX5) (N := 5) hx hb hts hinX5 tyX5 tyX5_ok nmX5 hown hK.1 hP hD hS 0 rfl rfl 3 (by decide) fl27 (fun _ h9 => h9) rfl (by decide +kernel) rfl rfl (Nat.le_of_ble_eq_true rfl) dX5_addEye_7 (fun H locs hP hD hS => ?_)
  have hP : va_P G vwCl [oTe a (nI (ey + 1)) le] H := hP
  have hD : va_D A [oTe a (nI (ey + 1)) le] := hD
  refine lv_aload_n hx hb dX5_addEye_10 rfl (lv_at hl 0 rfl) ?_
  refine va_get (D := G) (own := RX5) (ref := "SpotRows$Tellings") (ci := 5) (v := .int (nI (ey + 1))) (C := RX5) (T := TX5) (N := 5) hx hb hts hinX5 hown hK.1 hP 0 rfl rfl 3 (by decide) fl27 (fun _ h9 => h9) rfl dX5_addEye_11 ?_
  refine lv_iconst (v := nI 1) hx hb dX5_addEye_14 (by decide) ?_
  refine lv_isub hx hb dX5_addEye_15 ?_
  refine toi (pk_sub (a := (ey + 1)) (b := 1) (by omega)) ?_
  exact W.iret (v := nI (ey + 1 - 1)) hx hb hr (fun zt ht zw => ⟨⟨_, (), rfl, (congrArg nI (show ey + 1 - 1 = ey from by omega)), by show va_P _ _ _ zt.heap; rw [ht]; exact hP⟩, by rw [hAe]; exact hS.F ht⟩) hS.2.2 dX5_addEye_16

set_option maxHeartbeats 400000 in
set_option maxRecDepth 100000 in
theorem c_X5_countIn (l : Launch) (G : va_G) (cI cJ : ClassId) (a : Nat → Nat) (ey : Nat) (le : Int32) (t : Nat → Nat) (e : Nat) (d : Nat) (sg : Int32) (bd : Nat → Int32) (bs : Nat → Int32) (tb : TB t) (he : e < 8) (hd : d < 240) (hey : ey ≤ 8) : Met l yX5_countIn wsX5_countIn ({ frames := 2, cells := 0, slots := 0, locals := 44 }) (rwP G cI cJ [.ref (a 2), .int (nI e), .int (nI d), .int sg] [oTe a (nI ey) le, aI cI (a 11) 1920 (oF t), aI cI (a 12) 64 bd, aI cI (a 13) 64 bs]) (rwQv G [oTe a (nI ey) le, aI cI (a 11) 1920 (oF t), aI cI (a 12) 64 bd, aI cI (a 13) 64 bs] (fun (_ : Unit) => True) (fun (_ : Unit) => [oTe a (nI ey) le, aI cI (a 11) 1920 (oF t), aI cI (a 12) 64 (cInD t e d sg ey bd), aI cI (a 13) 64 (cInS t e d sg ey bs)])) 0 0 (ads [oTe a (nI ey) le, aI cI (a 11) 1920 (oF t), aI cI (a 12) 64 bd, aI cI (a 13) 64 bs]) := by
  refine Met.ofW (cc := cX5_countIn) (maxL := 7) (ret := none) (by decide) rfl ?_
  intro pg ev s mt args below meth cd s₁ B hml hv
  obtain ⟨rfl, hP, hD0, hK⟩ := hv
  have hx := B.exec
  have hb := B.bytes
  have hr := B.returns
  have hts := atoms_spec (ws := wsX5_countIn) B.pre
  have hown : s.vm.findClass RX5 = some mt.cls := findClass_of_methodNamed B.named
  have hlocks := B.notSynchronized
  have hD := ads_self hD0
  generalize hAe : ads [oTe a (nI ey) le, aI cI (a 11) 1920 (oF t), aI cI (a 12) 64 bd, aI cI (a 13) 64 bs] = A at hD ⊢
  have hS : va_S A s.heap s.heap [] := va_S.rf
  have hP : va_P G vwCl [oTe a (nI ey) le, aI cI (a 11) 1920 (oF t), aI cI (a 12) 64 bd, aI cI (a 13) 64 bs] s.heap := hP
  have hinX5 := (show ∀ w ∈ u_ws RX5 TX5 5, w ∈ wsX5_countIn by decide +kernel)
  have fl27 := hts (.fieldLink RX5 27 "SpotRows$Tellings" "eyes" "I") (by decide +kernel)
  have fl15 := hts (.fieldLink RX5 15 "SpotRows$Tellings" "bothDays" "[I") (by decide +kernel)
  have fl18 := hts (.fieldLink RX5 18 "SpotRows$Tellings" "bothSums" "[I") (by decide +kernel)
  have hl := lv_entry ([.ref (a 2), .int (nI e), .int (nI d), .int sg]) (n := 7) (Nat.le_of_ble_eq_true rfl)
  rw [lg_entry_eq]
  generalize (lg_sl ([.ref (a 2), .int (nI e), .int (nI d), .int sg]) ++ List.replicate (7 - (lg_sl ([.ref (a 2), .int (nI e), .int (nI d), .int sg])).length) Slot.unset).toArray = ls at hl ⊢
  have hl : lv_has ls 7 [(0, .ref (a 2)), (1, .int (nI e)), (2, .int (nI d)), (3, .int sg)] := hl
  refine lv_aload_n hx hb dX5_countIn_0 rfl (lv_at hl 0 rfl) ?_
  refine lv_iload_n hx hb dX5_countIn_1 rfl (lv_at hl 1 rfl) ?_
  refine lv_iload_n hx hb dX5_countIn_2 rfl (lv_at hl 2 rfl) ?_
  refine cro_i (va_runV (As := [.int (nI e), .int (nI d)]) (rest := []) ⟨hx, hb, hml, hown, hts⟩ (c_X5_has l G cI cJ (a := a) (ey := nI ey) (le := le) (t := t) (e := e) (d := d) (tb := by first | assumption | omega) (he := by first | assumption | omega) (hd := by first | assumption | omega)) (cwV 2 hts gX5_countIn_X5_has rfl rfl rfl (by decide +kernel) ⟨Nat.le_of_ble_eq_true rfl, Nat.le_of_ble_eq_true rfl⟩) (preV_ro (wc := [oTe a (nI ey) le, aI cI (a 11) 1920 (oF t)]) hK hP [0, 1] rfl 5 0 rfl rfl rfl) rfl rfl hl.1 rfl (lv_room (Nat.le_of_ble_eq_true rfl)) dX5_countIn_3 ⟨Nat.zero_le _, Nat.zero_le _⟩) ?_
  refine nb_if_ne (tgt := 10) hx hb dX5_countIn_6 (by decide) (fun c_6 => ?_) (fun c_6 => ?_)
  · refine lv_iconst (v := nI 0) hx hb dX5_countIn_10 (by decide) ?_
    refine lv_istore (lv' := [(4, .int (nI 0)), (0, .ref (a 2)), (1, .int (nI e)), (2, .int (nI d)), (3, .int sg)]) hx hb dX5_countIn_11 hl (by decide) rfl (fun ls hl => ?_)
    have lp_13 : ∀ (nf : Nat) (k : Nat), k ≤ ey → ey - k < nf → ∀ (H : Heap) (locs : List Loc), va_P G vwCl [oTe a (nI ey) le, aI cI (a 11) 1920 (oF t), aI cI (a 12) 64 (bdL t e d sg k bd), aI cI (a 13) 64 (bsL t e d sg k bs)] H → va_D A [oTe a (nI ey) le, aI cI (a 11) 1920 (oF t), aI cI (a 12) 64 (bdL t e d sg k bd), aI cI (a 13) 64 (bsL t e d sg k bs)] → va_S A s.heap H locs → ∀ (ls : Array Slot), lv_has ls 7 [(0, .ref (a 2)), (1, .int (nI e)), (2, .int (nI d)), (3, .int sg), (4, .int (nI k))] → W pg l ev (headSpec wsX5_countIn ({ frames := 2, cells := 0, slots := 0, locals := 44 })).room s mt ([.ref (a 2), .int (nI e), .int (nI d), .int sg] : List Value).toArray below meth cd H locs 0 0 (MQ below (rwQv G [oTe a (nI ey) le, aI cI (a 11) 1920 (oF t), aI cI (a 12) 64 bd, aI cI (a 13) 64 bs] (fun (_ : Unit) => True) (fun (_ : Unit) => [oTe a (nI ey) le, aI cI (a 11) 1920 (oF t), aI cI (a 12) 64 (cInD t e d sg ey bd), aI cI (a 13) 64 (cInS t e d sg ey bs)])) ([.ref (a 2), .int (nI e), .int (nI d), .int sg] : List Value).toArray s 0 0 A) (F0 mt 13 ls []) := by
      intro nf
      induction nf with
      | zero => intro k hk hfu; exact absurd hfu (Nat.not_lt_zero _)
      | succ nf ih_13 =>
        intro k hk hfu H locs hP hD hS ls hl
        refine lv_iload hx hb dX5_countIn_13 (lv_at hl 4 rfl) ?_
        refine lv_aload_n hx hb dX5_countIn_15 rfl (lv_at hl 0 rfl) ?_
        refine va_get (D := G) (own := RX5) (ref := "SpotRows$Tellings") (ci := 5) (v := .int (nI ey)) (C := RX5) (T := TX5) (N := 5) hx hb hts hinX5 hown hK.1 hP 0 rfl rfl 3 (by decide) fl27 (fun _ h9 => h9) rfl dX5_countIn_16 ?_
        refine nv_icmp_ge (tgt := 121) hx hb dX5_countIn_19 (by decide) (by omega) (by omega) (fun c_19 => ?_) (fun c_19 => ?_)
        · have hP : va_P G vwCl [oTe a (nI ey) le, aI cI (a 11) 1920 (oF t), aI cI (a 12) 64 (cInD t e d sg ey bd), aI cI (a 13) 64 (cInS t e d sg ey bs)] H := by
            have ew : ([oTe a (nI ey) le, aI cI (a 11) 1920 (oF t), aI cI (a 12) 64 (bdL t e d sg k bd), aI cI (a 13) 64 (bsL t e d sg k bs)] : va_W) = [oTe a (nI ey) le, aI cI (a 11) 1920 (oF t), aI cI (a 12) 64 (cInD t e d sg ey bd), aI cI (a 13) 64 (cInS t e d sg ey bs)] := (wvC rfl (wvC rfl (wvC (congrArg (fun z => aI cI (a 12) 64 z) (show (bdL t e d sg k bd) = (cInD t e d sg ey bd) from by (unfold cInD; rw [if_neg (by omega), show k = ey from by omega]))) (wvC (congrArg (fun z => aI cI (a 13) 64 z) (show (bsL t e d sg k bs) = (cInS t e d sg ey bs) from by (unfold cInS; rw [if_neg (by omega), show k = ey from by omega]))) rfl))))
            rw [← ew]; exact hP
          exact W.vret hx hb hr (fun zt ht zw => ⟨⟨(), rfl, trivial, by show va_P _ _ _ zt.heap; rw [ht]; exact hP⟩, by rw [hAe]; exact hS.F ht⟩) hS.2.2 dX5_countIn_121
        refine lv_iload hx hb dX5_countIn_22 (lv_at hl 4 rfl) ?_
        refine lv_iload_n hx hb dX5_countIn_24 rfl (lv_at hl 1 rfl) ?_
        refine nv_icmp_eq (tgt := 115) hx hb dX5_countIn_25 (by decide) (by omega) (by omega) (fun c_25 => ?_) (fun c_25 => ?_)
        · refine lv_iinc (v := nI (k + 1)) (lv' := [(4, .int (nI (k + 1))), (0, .ref (a 2)), (1, .int (nI e)), (2, .int (nI d)), (3, .int sg)]) hx hb dX5_countIn_115 hl (k := 4) rfl (nI_add k 1) (by decide) rfl (fun ls hl => ?_)
          refine lv_goto (tgt := 13) hx hb dX5_countIn_118 (by decide) ?_
          have hw_13 : ([oTe a (nI ey) le, aI cI (a 11) 1920 (oF t), aI cI (a 12) 64 (bdL t e d sg k bd), aI cI (a 13) 64 (bsL t e d sg k bs)] : va_W) = [oTe a (nI ey) le, aI cI (a 11) 1920 (oF t), aI cI (a 12) 64 (bdL t e d sg (k + 1) bd), aI cI (a 13) 64 (bsL t e d sg (k + 1) bs)] := (wvC rfl (wvC rfl (wvC (congrArg (fun z => aI cI (a 12) 64 z) (show bdL t e d sg k bd = bdL t e d sg (k + 1) bd from by first | rfl | (simp only [bdL]; rw [if_neg (by omega)]) | (simp only [bdL]; rw [if_pos (by omega)]))) (wvC (congrArg (fun z => aI cI (a 13) 64 z) (show bsL t e d sg k bs = bsL t e d sg (k + 1) bs from by first | rfl | (simp only [bsL]; rw [if_neg (by omega)]) | (simp only [bsL]; rw [if_pos (by omega)]))) rfl))))
          exact ih_13 (k + 1) (by first | rfl | omega | (simp_all; done)) (by omega) H locs (hw_13 ▸ hP) (hw_13 ▸ hD) hS ls (lvcv (l := [(0, .ref (a 2)), (1, .int (nI e)), (2, .int (nI d)), (3, .int sg), (4, .int (nI (k + 1)))]) (lv_sub hl [1, 2, 3, 4, 0] rfl) (lvC (lvC (lvC (lvC (lvC rfl))))))
        refine lv_aload_n hx hb dX5_countIn_28 rfl (lv_at hl 0 rfl) ?_
        refine lv_iload hx hb dX5_countIn_29 (lv_at hl 4 rfl) ?_
        refine lv_iload_n hx hb dX5_countIn_31 rfl (lv_at hl 2 rfl) ?_
        refine cro_i (va_runV (As := [.int (nI k), .int (nI d)]) (rest := []) ⟨hx, hb, hml, hown, hts⟩ (c_X5_has l G cI cJ (a := a) (ey := nI ey) (le := le) (t := t) (e := k) (d := d) (tb := by first | assumption | omega) (he := by first | assumption | omega) (hd := by first | assumption | omega)) (cwV 2 hts gX5_countIn_X5_has rfl rfl rfl (by decide +kernel) ⟨Nat.le_of_ble_eq_true rfl, Nat.le_of_ble_eq_true rfl⟩) (preV_ro (wc := [oTe a (nI ey) le, aI cI (a 11) 1920 (oF t)]) hK hP [0, 1] rfl 5 0 rfl rfl rfl) rfl rfl hl.1 rfl (lv_room (Nat.le_of_ble_eq_true rfl)) dX5_countIn_32 ⟨Nat.zero_le _, Nat.zero_le _⟩) ?_
        refine nb_if_eq (tgt := 115) hx hb dX5_countIn_35 (by decide) (fun c_35 => ?_) (fun c_35 => ?_)
        · refine lv_iinc (v := nI (k + 1)) (lv' := [(4, .int (nI (k + 1))), (0, .ref (a 2)), (1, .int (nI e)), (2, .int (nI d)), (3, .int sg)]) hx hb dX5_countIn_115 hl (k := 4) rfl (nI_add k 1) (by decide) rfl (fun ls hl => ?_)
          refine lv_goto (tgt := 13) hx hb dX5_countIn_118 (by decide) ?_
          have hw_13 : ([oTe a (nI ey) le, aI cI (a 11) 1920 (oF t), aI cI (a 12) 64 (bdL t e d sg k bd), aI cI (a 13) 64 (bsL t e d sg k bs)] : va_W) = [oTe a (nI ey) le, aI cI (a 11) 1920 (oF t), aI cI (a 12) 64 (bdL t e d sg (k + 1) bd), aI cI (a 13) 64 (bsL t e d sg (k + 1) bs)] := (wvC rfl (wvC rfl (wvC (congrArg (fun z => aI cI (a 12) 64 z) (show bdL t e d sg k bd = bdL t e d sg (k + 1) bd from by first | rfl | (simp only [bdL]; rw [if_neg (by omega)]) | (simp only [bdL]; rw [if_pos (by omega)]))) (wvC (congrArg (fun z => aI cI (a 13) 64 z) (show bsL t e d sg k bs = bsL t e d sg (k + 1) bs from by first | rfl | (simp only [bsL]; rw [if_neg (by omega)]) | (simp only [bsL]; rw [if_pos (by omega)]))) rfl))))
          exact ih_13 (k + 1) (by first | rfl | omega | (simp_all; done)) (by omega) H locs (hw_13 ▸ hP) (hw_13 ▸ hD) hS ls (lvcv (l := [(0, .ref (a 2)), (1, .int (nI e)), (2, .int (nI d)), (3, .int sg), (4, .int (nI (k + 1)))]) (lv_sub hl [1, 2, 3, 4, 0] rfl) (lvC (lvC (lvC (lvC (lvC rfl))))))
        refine lv_iload_n hx hb dX5_countIn_38 rfl (lv_at hl 1 rfl) ?_
        refine lv_bipush (v := nI 8) hx hb dX5_countIn_39 (by decide) ?_
        refine lv_imul hx hb dX5_countIn_41 ?_
        refine toi (pk_mul e 8) ?_
        refine lv_iload hx hb dX5_countIn_42 (lv_at hl 4 rfl) ?_
        refine lv_iadd hx hb dX5_countIn_44 ?_
        refine toi (nI_add (e * 8) k) ?_
        refine lv_istore (lv' := [(5, .int (nI (e * 8 + k))), (0, .ref (a 2)), (1, .int (nI e)), (2, .int (nI d)), (3, .int sg), (4, .int (nI k))]) hx hb dX5_countIn_45 hl (by decide) rfl (fun ls hl => ?_)
        refine lv_iload hx hb dX5_countIn_47 (lv_at hl 5 rfl) ?_
        refine lv_bipush (v := nI 8) hx hb dX5_countIn_49 (by decide) ?_
        refine lv_imul hx hb dX5_countIn_51 ?_
        refine toi (pk_mul k 8) ?_
        refine lv_iload_n hx hb dX5_countIn_52 rfl (lv_at hl 2 rfl) ?_
        refine lv_iadd hx hb dX5_countIn_53 ?_
        refine toi (nI_add (k * 8) e) ?_
        refine lv_istore (lv' := [(6, .int (nI (k * 8 + e))), (5, .int (nI (e * 8 + k))), (0, .ref (a 2)), (1, .int (nI e)), (2, .int (nI d)), (3, .int sg), (4, .int (nI k))]) hx hb dX5_countIn_54 hl (by decide) rfl (fun ls hl => ?_)
        refine lv_aload_n hx hb dX5_countIn_56 rfl (lv_at hl 2 rfl) ?_
        refine va_get (D := G) (own := RX5) (ref := "SpotRows$Tellings") (ci := 5) (v := .ref (a 12)) (C := RX5) (T := TX5) (N := 5) hx hb hts hinX5 hown hK.1 hP 0 rfl rfl 1 (by decide) fl15 (fun _ h9 => h9) rfl dX5_countIn_57 ?_
        refine lv_iload hx hb dX5_countIn_60 (lv_at hl 1 rfl) ?_
        refine lv_dup2_11 hx hb dX5_countIn_62 rfl rfl ?_
        refine ld_I hx hb hK hP 2 (k := e * 8 + k) rfl (by omega) (by decide) dX5_countIn_63 ?_
        refine lv_iload_n hx hb dX5_countIn_64 rfl (lv_at hl 5 rfl) ?_
        refine lv_iadd hx hb dX5_countIn_65 ?_
        refine st_I hx hb hK hP hD hS 2 (k := e * 8 + k) rfl (by omega) (by decide) dX5_countIn_66 (fun H locs hP hD hS => ?_)
        have hP : va_P G vwCl [oTe a (nI ey) le, aI cI (a 11) 1920 (oF t), aI cI (a 12) 64 (upN (bdL t e d sg k bd) (e * 8 + k) (((bdL t e d sg k bd) (e * 8 + k)) + sg)), aI cI (a 13) 64 (bsL t e d sg k bs)] H := hP
        have hD : va_D A [oTe a (nI ey) le, aI cI (a 11) 1920 (oF t), aI cI (a 12) 64 (upN (bdL t e d sg k bd) (e * 8 + k) (((bdL t e d sg k bd) (e * 8 + k)) + sg)), aI cI (a 13) 64 (bsL t e d sg k bs)] := hD
        refine lv_aload_n hx hb dX5_countIn_67 rfl (lv_at hl 2 rfl) ?_
        refine va_get (D := G) (own := RX5) (ref := "SpotRows$Tellings") (ci := 5) (v := .ref (a 12)) (C := RX5) (T := TX5) (N := 5) hx hb hts hinX5 hown hK.1 hP 0 rfl rfl 1 (by decide) fl15 (fun _ h9 => h9) rfl dX5_countIn_68 ?_
        refine lv_iload hx hb dX5_countIn_71 (lv_at hl 0 rfl) ?_
        refine lv_dup2_11 hx hb dX5_countIn_73 rfl rfl ?_
        refine ld_I hx hb hK hP 2 (k := k * 8 + e) rfl (by omega) (by decide) dX5_countIn_74 ?_
        refine lv_iload_n hx hb dX5_countIn_75 rfl (lv_at hl 5 rfl) ?_
        refine lv_iadd hx hb dX5_countIn_76 ?_
        refine st_I hx hb hK hP hD hS 2 (k := k * 8 + e) rfl (by omega) (by decide) dX5_countIn_77 (fun H locs hP hD hS => ?_)
        have hP : va_P G vwCl [oTe a (nI ey) le, aI cI (a 11) 1920 (oF t), aI cI (a 12) 64 (upN (upN (bdL t e d sg k bd) (e * 8 + k) (((bdL t e d sg k bd) (e * 8 + k)) + sg)) (k * 8 + e) (((upN (bdL t e d sg k bd) (e * 8 + k) (((bdL t e d sg k bd) (e * 8 + k)) + sg)) (k * 8 + e)) + sg)), aI cI (a 13) 64 (bsL t e d sg k bs)] H := hP
        have hD : va_D A [oTe a (nI ey) le, aI cI (a 11) 1920 (oF t), aI cI (a 12) 64 (upN (upN (bdL t e d sg k bd) (e * 8 + k) (((bdL t e d sg k bd) (e * 8 + k)) + sg)) (k * 8 + e) (((upN (bdL t e d sg k bd) (e * 8 + k) (((bdL t e d sg k bd) (e * 8 + k)) + sg)) (k * 8 + e)) + sg)), aI cI (a 13) 64 (bsL t e d sg k bs)] := hD
        refine lv_aload_n hx hb dX5_countIn_78 rfl (lv_at hl 2 rfl) ?_
        refine va_get (D := G) (own := RX5) (ref := "SpotRows$Tellings") (ci := 5) (v := .ref (a 13)) (C := RX5) (T := TX5) (N := 5) hx hb hts hinX5 hown hK.1 hP 0 rfl rfl 2 (by decide) fl18 (fun _ h9 => h9) rfl dX5_countIn_79 ?_
        refine lv_iload hx hb dX5_countIn_82 (lv_at hl 1 rfl) ?_
        refine lv_dup2_11 hx hb dX5_countIn_84 rfl rfl ?_
        refine ld_I hx hb hK hP 3 (k := e * 8 + k) rfl (by omega) (by decide) dX5_countIn_85 ?_
        refine lv_iload_n hx hb dX5_countIn_86 rfl (lv_at hl 5 rfl) ?_
        refine lv_aload_n hx hb dX5_countIn_87 rfl (lv_at hl 2 rfl) ?_
        refine lv_iload_n hx hb dX5_countIn_88 rfl (lv_at hl 3 rfl) ?_
        refine lv_iload_n hx hb dX5_countIn_89 rfl (lv_at hl 4 rfl) ?_
        refine cro_i (va_runV (As := [.int (nI e), .int (nI d)]) (rest := [.int sg, .int ((bsL t e d sg k bs) (e * 8 + k)), .int (nI (e * 8 + k)), .ref (a 13)]) ⟨hx, hb, hml, hown, hts⟩ (c_X5_numberOf l G cI cJ (a := a) (ey := nI ey) (le := le) (t := t) (e := e) (d := d) (tb := by first | assumption | omega) (he := by first | assumption | omega) (hd := by first | assumption | omega) (hn := by first | assumption | omega)) (cwV 2 hts gX5_countIn_X5_numberOf rfl rfl rfl (by decide +kernel) ⟨Nat.le_of_ble_eq_true rfl, Nat.le_of_ble_eq_true rfl⟩) (preV_ro (wc := [oTe a (nI ey) le, aI cI (a 11) 1920 (oF t)]) hK hP [0, 1] rfl 5 0 rfl rfl rfl) rfl rfl hl.1 rfl (lv_room (Nat.le_of_ble_eq_true rfl)) dX5_countIn_90 ⟨Nat.zero_le _, Nat.zero_le _⟩) ?_
        refine lv_imul hx hb dX5_countIn_93 ?_
        refine lv_iadd hx hb dX5_countIn_94 ?_
        refine st_I hx hb hK hP hD hS 3 (k := e * 8 + k) rfl (by omega) (by decide) dX5_countIn_95 (fun H locs hP hD hS => ?_)
        have hP : va_P G vwCl [oTe a (nI ey) le, aI cI (a 11) 1920 (oF t), aI cI (a 12) 64 (upN (upN (bdL t e d sg k bd) (e * 8 + k) (((bdL t e d sg k bd) (e * 8 + k)) + sg)) (k * 8 + e) (((upN (bdL t e d sg k bd) (e * 8 + k) (((bdL t e d sg k bd) (e * 8 + k)) + sg)) (k * 8 + e)) + sg)), aI cI (a 13) 64 (upN (bsL t e d sg k bs) (e * 8 + k) (((bsL t e d sg k bs) (e * 8 + k)) + (sg * (nI (num t (e * 240 + d))))))] H := hP
        have hD : va_D A [oTe a (nI ey) le, aI cI (a 11) 1920 (oF t), aI cI (a 12) 64 (upN (upN (bdL t e d sg k bd) (e * 8 + k) (((bdL t e d sg k bd) (e * 8 + k)) + sg)) (k * 8 + e) (((upN (bdL t e d sg k bd) (e * 8 + k) (((bdL t e d sg k bd) (e * 8 + k)) + sg)) (k * 8 + e)) + sg)), aI cI (a 13) 64 (upN (bsL t e d sg k bs) (e * 8 + k) (((bsL t e d sg k bs) (e * 8 + k)) + (sg * (nI (num t (e * 240 + d))))))] := hD
        refine lv_aload_n hx hb dX5_countIn_96 rfl (lv_at hl 2 rfl) ?_
        refine va_get (D := G) (own := RX5) (ref := "SpotRows$Tellings") (ci := 5) (v := .ref (a 13)) (C := RX5) (T := TX5) (N := 5) hx hb hts hinX5 hown hK.1 hP 0 rfl rfl 2 (by decide) fl18 (fun _ h9 => h9) rfl dX5_countIn_97 ?_
        refine lv_iload hx hb dX5_countIn_100 (lv_at hl 0 rfl) ?_
        refine lv_dup2_11 hx hb dX5_countIn_102 rfl rfl ?_
        refine ld_I hx hb hK hP 3 (k := k * 8 + e) rfl (by omega) (by decide) dX5_countIn_103 ?_
        refine lv_iload_n hx hb dX5_countIn_104 rfl (lv_at hl 5 rfl) ?_
        refine lv_aload_n hx hb dX5_countIn_105 rfl (lv_at hl 2 rfl) ?_
        refine lv_iload hx hb dX5_countIn_106 (lv_at hl 6 rfl) ?_
        refine lv_iload_n hx hb dX5_countIn_108 rfl (lv_at hl 4 rfl) ?_
        refine cro_i (va_runV (As := [.int (nI k), .int (nI d)]) (rest := [.int sg, .int ((upN (bsL t e d sg k bs) (e * 8 + k) (((bsL t e d sg k bs) (e * 8 + k)) + (sg * (nI (num t (e * 240 + d)))))) (k * 8 + e)), .int (nI (k * 8 + e)), .ref (a 13)]) ⟨hx, hb, hml, hown, hts⟩ (c_X5_numberOf l G cI cJ (a := a) (ey := nI ey) (le := le) (t := t) (e := k) (d := d) (tb := by first | assumption | omega) (he := by first | assumption | omega) (hd := by first | assumption | omega) (hn := by first | assumption | omega)) (cwV 2 hts gX5_countIn_X5_numberOf rfl rfl rfl (by decide +kernel) ⟨Nat.le_of_ble_eq_true rfl, Nat.le_of_ble_eq_true rfl⟩) (preV_ro (wc := [oTe a (nI ey) le, aI cI (a 11) 1920 (oF t)]) hK hP [0, 1] rfl 5 0 rfl rfl rfl) rfl rfl hl.1 rfl (lv_room (Nat.le_of_ble_eq_true rfl)) dX5_countIn_109 ⟨Nat.zero_le _, Nat.zero_le _⟩) ?_
        refine lv_imul hx hb dX5_countIn_112 ?_
        refine lv_iadd hx hb dX5_countIn_113 ?_
        refine st_I hx hb hK hP hD hS 3 (k := k * 8 + e) rfl (by omega) (by decide) dX5_countIn_114 (fun H locs hP hD hS => ?_)
        have hP : va_P G vwCl [oTe a (nI ey) le, aI cI (a 11) 1920 (oF t), aI cI (a 12) 64 (upN (upN (bdL t e d sg k bd) (e * 8 + k) (((bdL t e d sg k bd) (e * 8 + k)) + sg)) (k * 8 + e) (((upN (bdL t e d sg k bd) (e * 8 + k) (((bdL t e d sg k bd) (e * 8 + k)) + sg)) (k * 8 + e)) + sg)), aI cI (a 13) 64 (upN (upN (bsL t e d sg k bs) (e * 8 + k) (((bsL t e d sg k bs) (e * 8 + k)) + (sg * (nI (num t (e * 240 + d)))))) (k * 8 + e) (((upN (bsL t e d sg k bs) (e * 8 + k) (((bsL t e d sg k bs) (e * 8 + k)) + (sg * (nI (num t (e * 240 + d)))))) (k * 8 + e)) + (sg * (nI (num t (k * 240 + d))))))] H := hP
        have hD : va_D A [oTe a (nI ey) le, aI cI (a 11) 1920 (oF t), aI cI (a 12) 64 (upN (upN (bdL t e d sg k bd) (e * 8 + k) (((bdL t e d sg k bd) (e * 8 + k)) + sg)) (k * 8 + e) (((upN (bdL t e d sg k bd) (e * 8 + k) (((bdL t e d sg k bd) (e * 8 + k)) + sg)) (k * 8 + e)) + sg)), aI cI (a 13) 64 (upN (upN (bsL t e d sg k bs) (e * 8 + k) (((bsL t e d sg k bs) (e * 8 + k)) + (sg * (nI (num t (e * 240 + d)))))) (k * 8 + e) (((upN (bsL t e d sg k bs) (e * 8 + k) (((bsL t e d sg k bs) (e * 8 + k)) + (sg * (nI (num t (e * 240 + d)))))) (k * 8 + e)) + (sg * (nI (num t (k * 240 + d))))))] := hD
        refine lv_iinc (v := nI (k + 1)) (lv' := [(4, .int (nI (k + 1))), (6, .int (nI (k * 8 + e))), (5, .int (nI (e * 8 + k))), (0, .ref (a 2)), (1, .int (nI e)), (2, .int (nI d)), (3, .int sg)]) hx hb dX5_countIn_115 hl (k := 6) rfl (nI_add k 1) (by decide) rfl (fun ls hl => ?_)
        refine lv_goto (tgt := 13) hx hb dX5_countIn_118 (by decide) ?_
        have hw_13 : ([oTe a (nI ey) le, aI cI (a 11) 1920 (oF t), aI cI (a 12) 64 (upN (upN (bdL t e d sg k bd) (e * 8 + k) (((bdL t e d sg k bd) (e * 8 + k)) + sg)) (k * 8 + e) (((upN (bdL t e d sg k bd) (e * 8 + k) (((bdL t e d sg k bd) (e * 8 + k)) + sg)) (k * 8 + e)) + sg)), aI cI (a 13) 64 (upN (upN (bsL t e d sg k bs) (e * 8 + k) (((bsL t e d sg k bs) (e * 8 + k)) + (sg * (nI (num t (e * 240 + d)))))) (k * 8 + e) (((upN (bsL t e d sg k bs) (e * 8 + k) (((bsL t e d sg k bs) (e * 8 + k)) + (sg * (nI (num t (e * 240 + d)))))) (k * 8 + e)) + (sg * (nI (num t (k * 240 + d))))))] : va_W) = [oTe a (nI ey) le, aI cI (a 11) 1920 (oF t), aI cI (a 12) 64 (bdL t e d sg (k + 1) bd), aI cI (a 13) 64 (bsL t e d sg (k + 1) bs)] := (wvC rfl (wvC rfl (wvC (congrArg (fun z => aI cI (a 12) 64 z) (show upN (upN (bdL t e d sg k bd) (e * 8 + k) (((bdL t e d sg k bd) (e * 8 + k)) + sg)) (k * 8 + e) (((upN (bdL t e d sg k bd) (e * 8 + k) (((bdL t e d sg k bd) (e * 8 + k)) + sg)) (k * 8 + e)) + sg) = bdL t e d sg (k + 1) bd from by first | rfl | (simp only [bdL]; rw [if_neg (by omega)]) | (simp only [bdL]; rw [if_pos (by omega)]))) (wvC (congrArg (fun z => aI cI (a 13) 64 z) (show upN (upN (bsL t e d sg k bs) (e * 8 + k) (((bsL t e d sg k bs) (e * 8 + k)) + (sg * (nI (num t (e * 240 + d)))))) (k * 8 + e) (((upN (bsL t e d sg k bs) (e * 8 + k) (((bsL t e d sg k bs) (e * 8 + k)) + (sg * (nI (num t (e * 240 + d)))))) (k * 8 + e)) + (sg * (nI (num t (k * 240 + d))))) = bsL t e d sg (k + 1) bs from by first | rfl | (simp only [bsL]; rw [if_neg (by omega)]) | (simp only [bsL]; rw [if_pos (by omega)]))) rfl))))
        exact ih_13 (k + 1) (by first | rfl | omega | (simp_all; done)) (by omega) H locs (hw_13 ▸ hP) (hw_13 ▸ hD) hS ls (lvcv (l := [(0, .ref (a 2)), (1, .int (nI e)), (2, .int (nI d)), (3, .int sg), (4, .int (nI (k + 1)))]) (lv_sub hl [3, 4, 5, 6, 0] rfl) (lvC (lvC (lvC (lvC (lvC rfl))))))
    have hw_13 : ([oTe a (nI ey) le, aI cI (a 11) 1920 (oF t), aI cI (a 12) 64 bd, aI cI (a 13) 64 bs] : va_W) = [oTe a (nI ey) le, aI cI (a 11) 1920 (oF t), aI cI (a 12) 64 (bdL t e d sg 0 bd), aI cI (a 13) 64 (bsL t e d sg 0 bs)] := (wvC rfl (wvC rfl (wvC (congrArg (fun z => aI cI (a 12) 64 z) (show bd = bdL t e d sg 0 bd from by first | rfl | (simp only [bdL]; rw [if_neg (by omega)]) | (simp only [bdL]; rw [if_pos (by omega)]))) (wvC (congrArg (fun z => aI cI (a 13) 64 z) (show bs = bsL t e d sg 0 bs from by first | rfl | (simp only [bsL]; rw [if_neg (by omega)]) | (simp only [bsL]; rw [if_pos (by omega)]))) rfl))))
    exact lp_13 (ey - 0 + 1) 0 (by first | rfl | omega | (simp_all; done)) (by omega) _ _ (hw_13 ▸ hP) (hw_13 ▸ hD) hS ls (lvcv (l := [(0, .ref (a 2)), (1, .int (nI e)), (2, .int (nI d)), (3, .int sg), (4, .int (nI 0))]) (lv_sub hl [1, 2, 3, 4, 0] rfl) (lvC (lvC (lvC (lvC (lvC rfl))))))
  have hP : va_P G vwCl [oTe a (nI ey) le, aI cI (a 11) 1920 (oF t), aI cI (a 12) 64 (cInD t e d sg ey bd), aI cI (a 13) 64 (cInS t e d sg ey bs)] s.heap := by
    have ew : ([oTe a (nI ey) le, aI cI (a 11) 1920 (oF t), aI cI (a 12) 64 bd, aI cI (a 13) 64 bs] : va_W) = [oTe a (nI ey) le, aI cI (a 11) 1920 (oF t), aI cI (a 12) 64 (cInD t e d sg ey bd), aI cI (a 13) 64 (cInS t e d sg ey bs)] := (wvC rfl (wvC rfl (wvC (congrArg (fun z => aI cI (a 12) 64 z) (show bd = (cInD t e d sg ey bd) from by (unfold cInD; rw [if_pos (by omega)]))) (wvC (congrArg (fun z => aI cI (a 13) 64 z) (show bs = (cInS t e d sg ey bs) from by (unfold cInS; rw [if_pos (by omega)]))) rfl))))
    rw [← ew]; exact hP
  exact W.vret hx hb hr (fun zt ht zw => ⟨⟨(), rfl, trivial, by show va_P _ _ _ zt.heap; rw [ht]; exact hP⟩, by rw [hAe]; exact hS.F ht⟩) hS.2.2 dX5_countIn_9

set_option maxHeartbeats 400000 in
set_option maxRecDepth 100000 in
theorem c_X5_put (l : Launch) (G : va_G) (cI cJ : ClassId) (a : Nat → Nat) (ey : Nat) (le : Int32) (t : Nat → Nat) (e : Nat) (d : Nat) (u : Nat) (bd : Nat → Int32) (bs : Nat → Int32) (tb : TB t) (tb2 : TB (upN t (e * 240 + d) u)) (he : e < 8) (hd : d < 240) (hey : ey ≤ 8) : Met l yX5_put wsX5_put ({ frames := 3, cells := 0, slots := 0, locals := 70 }) (rwP G cI cJ [.ref (a 2), .int (nI e), .int (nI d), .int (oI u)] [oTe a (nI ey) le, aI cI (a 11) 1920 (oF t), aI cI (a 12) 64 bd, aI cI (a 13) 64 bs]) (rwQv G [oTe a (nI ey) le, aI cI (a 11) 1920 (oF t), aI cI (a 12) 64 bd, aI cI (a 13) 64 bs] (fun (_ : Unit) => True) (fun (_ : Unit) => [oTe a (nI ey) le, aI cI (a 11) 1920 (oF (upN t (e * 240 + d) u)), aI cI (a 12) 64 (cInD (upN t (e * 240 + d) u) e d (nI 1) ey (cInD t e d (-1) ey bd)), aI cI (a 13) 64 (cInS (upN t (e * 240 + d) u) e d (nI 1) ey (cInS t e d (-1) ey bs))])) 0 0 (ads [oTe a (nI ey) le, aI cI (a 11) 1920 (oF t), aI cI (a 12) 64 bd, aI cI (a 13) 64 bs]) := by
  refine Met.ofW (cc := cX5_put) (maxL := 4) (ret := none) (by decide) rfl ?_
  intro pg ev s mt args below meth cd s₁ B hml hv
  obtain ⟨rfl, hP, hD0, hK⟩ := hv
  have hx := B.exec
  have hb := B.bytes
  have hr := B.returns
  have hts := atoms_spec (ws := wsX5_put) B.pre
  have hown : s.vm.findClass RX5 = some mt.cls := findClass_of_methodNamed B.named
  have hlocks := B.notSynchronized
  have hD := ads_self hD0
  generalize hAe : ads [oTe a (nI ey) le, aI cI (a 11) 1920 (oF t), aI cI (a 12) 64 bd, aI cI (a 13) 64 bs] = A at hD ⊢
  have hS : va_S A s.heap s.heap [] := va_S.rf
  have hP : va_P G vwCl [oTe a (nI ey) le, aI cI (a 11) 1920 (oF t), aI cI (a 12) 64 bd, aI cI (a 13) 64 bs] s.heap := hP
  have hinX5 := (show ∀ w ∈ u_ws RX5 TX5 5, w ∈ wsX5_put by decide +kernel)
  have fl9 := hts (.fieldLink RX5 9 "SpotRows$Tellings" "codes" "[I") (by decide +kernel)
  have hl := lv_entry ([.ref (a 2), .int (nI e), .int (nI d), .int (oI u)]) (n := 4) (Nat.le_of_ble_eq_true rfl)
  rw [lg_entry_eq]
  generalize (lg_sl ([.ref (a 2), .int (nI e), .int (nI d), .int (oI u)]) ++ List.replicate (4 - (lg_sl ([.ref (a 2), .int (nI e), .int (nI d), .int (oI u)])).length) Slot.unset).toArray = ls at hl ⊢
  have hl : lv_has ls 4 [(0, .ref (a 2)), (1, .int (nI e)), (2, .int (nI d)), (3, .int (oI u))] := hl
  refine lv_aload_n hx hb dX5_put_0 rfl (lv_at hl 0 rfl) ?_
  refine lv_iload_n hx hb dX5_put_1 rfl (lv_at hl 1 rfl) ?_
  refine lv_iload_n hx hb dX5_put_2 rfl (lv_at hl 2 rfl) ?_
  refine lv_iconst (v := (-1)) hx hb dX5_put_3 (by decide) ?_
  refine crw_v (free := fun _ => True) (va_runV (As := [.int (nI e), .int (nI d), .int (-1)]) (rest := []) ⟨hx, hb, hml, hown, hts⟩ (c_X5_countIn l G cI cJ (a := a) (ey := ey) (le := le) (t := t) (e := e) (d := d) (sg := (-1)) (bd := bd) (bs := bs) (tb := by first | assumption | omega) (he := by first | assumption | omega) (hd := by first | assumption | omega) (hey := by first | assumption | omega)) (cwV 3 hts gX5_put_X5_countIn rfl rfl rfl (by decide +kernel) ⟨Nat.le_of_ble_eq_true rfl, Nat.le_of_ble_eq_true rfl⟩) (preV_rw (wc := [oTe a (nI ey) le, aI cI (a 11) 1920 (oF t), aI cI (a 12) 64 bd, aI cI (a 13) 64 bs]) hK hP hD [0, 1, 2, 3] rfl rfl 5 0 rfl rfl rfl) rfl rfl hl.1 rfl (lv_room (Nat.le_of_ble_eq_true rfl)) dX5_put_4 ⟨Nat.zero_le _, Nat.zero_le _⟩) hP hD hS [0, 1, 2, 3] rfl [a 2, a 11, a 12, a 13] (fun u => rfl) rfl (fun u_ H locs hw_4 hP hD hS => ?_)
  have hP : va_P G vwCl [oTe a (nI ey) le, aI cI (a 11) 1920 (oF t), aI cI (a 12) 64 (cInD t e d (-1) ey bd), aI cI (a 13) 64 (cInS t e d (-1) ey bs)] H := hP
  have hD : va_D A [oTe a (nI ey) le, aI cI (a 11) 1920 (oF t), aI cI (a 12) 64 (cInD t e d (-1) ey bd), aI cI (a 13) 64 (cInS t e d (-1) ey bs)] := hD
  refine lv_aload_n hx hb dX5_put_7 rfl (lv_at hl 0 rfl) ?_
  refine va_get (D := G) (own := RX5) (ref := "SpotRows$Tellings") (ci := 5) (v := .ref (a 11)) (C := RX5) (T := TX5) (N := 5) hx hb hts hinX5 hown hK.1 hP 0 rfl rfl 0 (by decide) fl9 (fun _ h9 => h9) rfl dX5_put_8 ?_
  refine lv_iload_n hx hb dX5_put_11 rfl (lv_at hl 1 rfl) ?_
  refine lv_sipush (v := nI 240) hx hb dX5_put_12 (by decide) ?_
  refine lv_imul hx hb dX5_put_15 ?_
  refine toi (pk_mul e 240) ?_
  refine lv_iload_n hx hb dX5_put_16 rfl (lv_at hl 2 rfl) ?_
  refine lv_iadd hx hb dX5_put_17 ?_
  refine toi (nI_add (e * 240) d) ?_
  refine lv_iload_n hx hb dX5_put_18 rfl (lv_at hl 3 rfl) ?_
  refine st_oF hx hb hK hP hD hS 1 (k := e * 240 + d) rfl (by omega) (by decide) dX5_put_19 (fun H locs hP hD hS => ?_)
  have hP : va_P G vwCl [oTe a (nI ey) le, aI cI (a 11) 1920 (oF (upN t (e * 240 + d) u)), aI cI (a 12) 64 (cInD t e d (-1) ey bd), aI cI (a 13) 64 (cInS t e d (-1) ey bs)] H := hP
  have hD : va_D A [oTe a (nI ey) le, aI cI (a 11) 1920 (oF (upN t (e * 240 + d) u)), aI cI (a 12) 64 (cInD t e d (-1) ey bd), aI cI (a 13) 64 (cInS t e d (-1) ey bs)] := hD
  refine lv_aload_n hx hb dX5_put_20 rfl (lv_at hl 0 rfl) ?_
  refine lv_iload_n hx hb dX5_put_21 rfl (lv_at hl 1 rfl) ?_
  refine lv_iload_n hx hb dX5_put_22 rfl (lv_at hl 2 rfl) ?_
  refine lv_iconst (v := nI 1) hx hb dX5_put_23 (by decide) ?_
  refine crw_v (free := fun _ => True) (va_runV (As := [.int (nI e), .int (nI d), .int (nI 1)]) (rest := []) ⟨hx, hb, hml, hown, hts⟩ (c_X5_countIn l G cI cJ (a := a) (ey := ey) (le := le) (t := upN t (e * 240 + d) u) (e := e) (d := d) (sg := nI 1) (bd := cInD t e d (-1) ey bd) (bs := cInS t e d (-1) ey bs) (tb := tb2) (he := by first | assumption | omega) (hd := by first | assumption | omega) (hey := by first | assumption | omega)) (cwV 3 hts gX5_put_X5_countIn rfl rfl rfl (by decide +kernel) ⟨Nat.le_of_ble_eq_true rfl, Nat.le_of_ble_eq_true rfl⟩) (preV_rw (wc := [oTe a (nI ey) le, aI cI (a 11) 1920 (oF (upN t (e * 240 + d) u)), aI cI (a 12) 64 (cInD t e d (-1) ey bd), aI cI (a 13) 64 (cInS t e d (-1) ey bs)]) hK hP hD [0, 1, 2, 3] rfl rfl 5 0 rfl rfl rfl) rfl rfl hl.1 rfl (lv_room (Nat.le_of_ble_eq_true rfl)) dX5_put_24 ⟨Nat.zero_le _, Nat.zero_le _⟩) hP hD hS [0, 1, 2, 3] rfl [a 2, a 11, a 12, a 13] (fun u => rfl) rfl (fun u_ H locs hw_24 hP hD hS => ?_)
  have hP : va_P G vwCl [oTe a (nI ey) le, aI cI (a 11) 1920 (oF (upN t (e * 240 + d) u)), aI cI (a 12) 64 (cInD (upN t (e * 240 + d) u) e d (nI 1) ey (cInD t e d (-1) ey bd)), aI cI (a 13) 64 (cInS (upN t (e * 240 + d) u) e d (nI 1) ey (cInS t e d (-1) ey bs))] H := hP
  have hD : va_D A [oTe a (nI ey) le, aI cI (a 11) 1920 (oF (upN t (e * 240 + d) u)), aI cI (a 12) 64 (cInD (upN t (e * 240 + d) u) e d (nI 1) ey (cInD t e d (-1) ey bd)), aI cI (a 13) 64 (cInS (upN t (e * 240 + d) u) e d (nI 1) ey (cInS t e d (-1) ey bs))] := hD
  exact W.vret hx hb hr (fun zt ht zw => ⟨⟨(), rfl, trivial, by show va_P _ _ _ zt.heap; rw [ht]; exact hP⟩, by rw [hAe]; exact hS.F ht⟩) hS.2.2 dX5_put_27

set_option maxHeartbeats 400000 in
set_option maxRecDepth 100000 in
theorem c_X5_countBoth (l : Launch) (G : va_G) (cI cJ : ClassId) (a : Nat → Nat) (ey : Int32) (le : Int32) (t : Nat → Nat) (bd : Nat → Int32) (bs : Nat → Int32) (x : Nat) (y : Nat) (tb : TB t) (hT : TT t bd bs) (h_x : x < 8) (h_y : y < 8) (h_n : x ≠ y) : Met l yX5_countBoth wsX5_countBoth ({ frames := 0, cells := 0, slots := 0, locals := 0 }) (roP G cI cJ [.ref (a 2), .int (nI x), .int (nI y)] [oTe a ey le, aI cI (a 12) 64 bd]) (vp_Si (fun r => r = nI (cB t x y 240))) 0 0 (fun _ => False) := by
  refine Met.ofW (cc := cX5_countBoth) (maxL := 3) (ret := (some .int)) (by decide) rfl ?_
  intro pg ev s mt args below meth cd s₁ B hml hv
  obtain ⟨rfl, hP, hK⟩ := hv
  have hx := B.exec
  have hb := B.bytes
  have hr := B.returns
  have hts := atoms_spec (ws := wsX5_countBoth) B.pre
  have hown : s.vm.findClass RX5 = some mt.cls := findClass_of_methodNamed B.named
  have hlocks := B.notSynchronized
  have hP : va_P G vwCl [oTe a ey le, aI cI (a 12) 64 bd] s.heap := hP
  have hinX5 := (show ∀ w ∈ u_ws RX5 TX5 5, w ∈ wsX5_countBoth by decide +kernel)
  have fl15 := hts (.fieldLink RX5 15 "SpotRows$Tellings" "bothDays" "[I") (by decide +kernel)
  have hl := lv_entry ([.ref (a 2), .int (nI x), .int (nI y)]) (n := 3) (Nat.le_of_ble_eq_true rfl)
  rw [lg_entry_eq]
  generalize (lg_sl ([.ref (a 2), .int (nI x), .int (nI y)]) ++ List.replicate (3 - (lg_sl ([.ref (a 2), .int (nI x), .int (nI y)])).length) Slot.unset).toArray = ls at hl ⊢
  have hl : lv_has ls 3 [(0, .ref (a 2)), (1, .int (nI x)), (2, .int (nI y))] := hl
  refine lv_aload_n hx hb dX5_countBoth_0 rfl (lv_at hl 0 rfl) ?_
  refine va_get (D := G) (own := RX5) (ref := "SpotRows$Tellings") (ci := 5) (v := .ref (a 12)) (C := RX5) (T := TX5) (N := 5) hx hb hts hinX5 hown hK.1 hP 0 rfl rfl 1 (by decide) fl15 (fun _ h9 => h9) rfl dX5_countBoth_1 ?_
  refine lv_iload_n hx hb dX5_countBoth_4 rfl (lv_at hl 1 rfl) ?_
  refine lv_bipush (v := nI 8) hx hb dX5_countBoth_5 (by decide) ?_
  refine lv_imul hx hb dX5_countBoth_7 ?_
  refine toi (pk_mul x 8) ?_
  refine lv_iload_n hx hb dX5_countBoth_8 rfl (lv_at hl 2 rfl) ?_
  refine lv_iadd hx hb dX5_countBoth_9 ?_
  refine toi (nI_add (x * 8) y) ?_
  refine ld_I hx hb hK hP 1 (k := x * 8 + y) rfl (by omega) (by decide) dX5_countBoth_10 ?_
  refine toi (show bd (x * 8 + y) = nI (cB t x y 240) from (hT x y h_x h_y h_n).1) ?_
  exact W.iret (v := nI (cB t x y 240)) hx hb hr (fun zt ht zw => ⟨_, rfl, rfl, ht⟩) (fun q hq => absurd hq List.not_mem_nil) dX5_countBoth_11

set_option maxHeartbeats 400000 in
set_option maxRecDepth 100000 in
theorem c_X5_countBothAbove (l : Launch) (G : va_G) (cI cJ : ClassId) (a : Nat → Nat) (ey : Int32) (le : Int32) (t : Nat → Nat) (x : Nat) (y : Nat) (g : Nat) (tb : TB t) (h_x : x < 8) (h_y : y < 8) (hg : g ≤ 20) : Met l yX5_countBothAbove wsX5_countBothAbove ({ frames := 2, cells := 0, slots := 0, locals := 45 }) (roP G cI cJ [.ref (a 2), .int (nI x), .int (nI y), .int (nI g)] [oTe a ey le, aI cI (a 11) 1920 (oF t)]) (vp_Si (fun r => r = nI (cG t x y g 240))) 0 0 (fun _ => False) := by
  refine Met.ofW (cc := cX5_countBothAbove) (maxL := 6) (ret := (some .int)) (by decide) rfl ?_
  intro pg ev s mt args below meth cd s₁ B hml hv
  obtain ⟨rfl, hP, hK⟩ := hv
  have hx := B.exec
  have hb := B.bytes
  have hr := B.returns
  have hts := atoms_spec (ws := wsX5_countBothAbove) B.pre
  have hown : s.vm.findClass RX5 = some mt.cls := findClass_of_methodNamed B.named
  have hlocks := B.notSynchronized
  have hP : va_P G vwCl [oTe a ey le, aI cI (a 11) 1920 (oF t)] s.heap := hP
  have hl := lv_entry ([.ref (a 2), .int (nI x), .int (nI y), .int (nI g)]) (n := 6) (Nat.le_of_ble_eq_true rfl)
  rw [lg_entry_eq]
  generalize (lg_sl ([.ref (a 2), .int (nI x), .int (nI y), .int (nI g)]) ++ List.replicate (6 - (lg_sl ([.ref (a 2), .int (nI x), .int (nI y), .int (nI g)])).length) Slot.unset).toArray = ls at hl ⊢
  have hl : lv_has ls 6 [(0, .ref (a 2)), (1, .int (nI x)), (2, .int (nI y)), (3, .int (nI g))] := hl
  refine lv_iconst (v := nI 0) hx hb dX5_countBothAbove_0 (by decide) ?_
  refine lv_istore (lv' := [(4, .int (nI 0)), (0, .ref (a 2)), (1, .int (nI x)), (2, .int (nI y)), (3, .int (nI g))]) hx hb dX5_countBothAbove_1 hl (by decide) rfl (fun ls hl => ?_)
  refine lv_iconst (v := nI 0) hx hb dX5_countBothAbove_3 (by decide) ?_
  refine lv_istore (lv' := [(5, .int (nI 0)), (4, .int (nI 0)), (0, .ref (a 2)), (1, .int (nI x)), (2, .int (nI y)), (3, .int (nI g))]) hx hb dX5_countBothAbove_4 hl (by decide) rfl (fun ls hl => ?_)
  have lp_6 : ∀ (nf : Nat) (k : Nat), k ≤ 240 → 240 - k < nf → ∀ (ls : Array Slot), lv_has ls 6 [(0, .ref (a 2)), (1, .int (nI x)), (2, .int (nI y)), (3, .int (nI g)), (4, .int (nI (cG t x y g k))), (5, .int (nI k))] → W pg l ev (headSpec wsX5_countBothAbove ({ frames := 2, cells := 0, slots := 0, locals := 45 })).room s mt ([.ref (a 2), .int (nI x), .int (nI y), .int (nI g)] : List Value).toArray below meth cd s.heap [] 0 0 (MQ below (vp_Si (fun r => r = nI (cG t x y g 240))) ([.ref (a 2), .int (nI x), .int (nI y), .int (nI g)] : List Value).toArray s 0 0 (fun _ => False)) (F0 mt 6 ls []) := by
    intro nf
    induction nf with
    | zero => intro k hk hfu; exact absurd hfu (Nat.not_lt_zero _)
    | succ nf ih_6 =>
      intro k hk hfu ls hl
      have hc := cG_le t x y g k
      have hg2 := grp_le tb (x * 240 + k)
      refine lv_iload hx hb dX5_countBothAbove_6 (lv_at hl 5 rfl) ?_
      refine lv_sipush (v := nI 240) hx hb dX5_countBothAbove_8 (by decide) ?_
      refine nv_icmp_ge (tgt := 45) hx hb dX5_countBothAbove_11 (by decide) (by first | omega | exact Nat.le_trans (TB_le tb _) (by decide) | exact Nat.lt_of_le_of_lt (TB_le tb _) (by decide)) (by first | omega | exact Nat.le_trans (TB_le tb _) (by decide) | exact Nat.lt_of_le_of_lt (TB_le tb _) (by decide)) (fun c_11 => ?_) (fun c_11 => ?_)
      · refine lv_iload hx hb dX5_countBothAbove_45 (lv_at hl 4 rfl) ?_
        exact W.iret (v := nI (cG t x y g k)) hx hb hr (fun zt ht zw => ⟨_, rfl, (congrArg nI (show cG t x y g k = cG t x y g 240 from by rw [show k = 240 from by omega])), ht⟩) (fun q hq => absurd hq List.not_mem_nil) dX5_countBothAbove_47
      refine lv_aload_n hx hb dX5_countBothAbove_14 rfl (lv_at hl 0 rfl) ?_
      refine lv_iload_n hx hb dX5_countBothAbove_15 rfl (lv_at hl 1 rfl) ?_
      refine lv_iload_n hx hb dX5_countBothAbove_16 rfl (lv_at hl 2 rfl) ?_
      refine lv_iload hx hb dX5_countBothAbove_17 (lv_at hl 5 rfl) ?_
      refine cro_i (va_runV (As := [.int (nI x), .int (nI y), .int (nI k)]) (rest := []) ⟨hx, hb, hml, hown, hts⟩ (c_X5_haveBoth l G cI cJ (a := a) (ey := ey) (le := le) (t := t) (x := x) (y := y) (d := k) (tb := by first | assumption | omega) (h_x := by first | assumption | omega) (h_y := by first | assumption | omega) (hd := by first | assumption | omega)) (cwV 3 hts gX5_countBothAbove_X5_haveBoth rfl rfl rfl (by decide +kernel) ⟨Nat.le_of_ble_eq_true rfl, Nat.le_of_ble_eq_true rfl⟩) (preV_ro (wc := [oTe a ey le, aI cI (a 11) 1920 (oF t)]) hK hP [0, 1] rfl 5 0 rfl rfl rfl) rfl rfl hl.1 rfl (lv_room (Nat.le_of_ble_eq_true rfl)) dX5_countBothAbove_19 ⟨Nat.zero_le _, Nat.zero_le _⟩) ?_
      refine nb_if_eq (tgt := 39) hx hb dX5_countBothAbove_22 (by decide) (fun c_22 => ?_) (fun c_22 => ?_)
      · refine lv_iinc (v := nI (k + 1)) (lv' := [(5, .int (nI (k + 1))), (0, .ref (a 2)), (1, .int (nI x)), (2, .int (nI y)), (3, .int (nI g)), (4, .int (nI (cG t x y g k)))]) hx hb dX5_countBothAbove_39 hl (k := 5) rfl (nI_add k 1) (by decide) rfl (fun ls hl => ?_)
        refine lv_goto (tgt := 6) hx hb dX5_countBothAbove_42 (by decide) ?_
        exact ih_6 (k + 1) (by first | rfl | omega | (simp_all; done)) (by omega) ls (lvcv (l := [(0, .ref (a 2)), (1, .int (nI x)), (2, .int (nI y)), (3, .int (nI g)), (4, .int (nI (cG t x y g k))), (5, .int (nI (k + 1)))]) (lv_sub hl [1, 2, 3, 4, 5, 0] rfl) (lvC (lvC (lvC (lvC (lvI (congrArg nI (show cG t x y g k = cG t x y g (k + 1) from by first | rfl | (simp only [cG, sm_s]; split <;> first | omega | (simp_all; done) | (simp_all; omega)))) (lvC rfl)))))))
      refine lv_aload_n hx hb dX5_countBothAbove_25 rfl (lv_at hl 0 rfl) ?_
      refine lv_iload_n hx hb dX5_countBothAbove_26 rfl (lv_at hl 1 rfl) ?_
      refine lv_iload hx hb dX5_countBothAbove_27 (lv_at hl 5 rfl) ?_
      refine cro_i (va_runV (As := [.int (nI x), .int (nI k)]) (rest := []) ⟨hx, hb, hml, hown, hts⟩ (c_X5_groupsOf l G cI cJ (a := a) (ey := ey) (le := le) (t := t) (e := x) (d := k) (tb := by first | assumption | omega) (he := by first | assumption | omega) (hd := by first | assumption | omega) (hn := c_22.1)) (cwV 2 hts gX5_countBothAbove_X5_groupsOf rfl rfl rfl (by decide +kernel) ⟨Nat.le_of_ble_eq_true rfl, Nat.le_of_ble_eq_true rfl⟩) (preV_ro (wc := [oTe a ey le, aI cI (a 11) 1920 (oF t)]) hK hP [0, 1] rfl 5 0 rfl rfl rfl) rfl rfl hl.1 rfl (lv_room (Nat.le_of_ble_eq_true rfl)) dX5_countBothAbove_29 ⟨Nat.zero_le _, Nat.zero_le _⟩) ?_
      refine lv_iload_n hx hb dX5_countBothAbove_32 rfl (lv_at hl 3 rfl) ?_
      refine nv_icmp_le (tgt := 39) hx hb dX5_countBothAbove_33 (by decide) (by first | omega | exact Nat.le_trans (TB_le tb _) (by decide) | exact Nat.lt_of_le_of_lt (TB_le tb _) (by decide)) (by first | omega | exact Nat.le_trans (TB_le tb _) (by decide) | exact Nat.lt_of_le_of_lt (TB_le tb _) (by decide)) (fun c_33 => ?_) (fun c_33 => ?_)
      · refine lv_iinc (v := nI (k + 1)) (lv' := [(5, .int (nI (k + 1))), (0, .ref (a 2)), (1, .int (nI x)), (2, .int (nI y)), (3, .int (nI g)), (4, .int (nI (cG t x y g k)))]) hx hb dX5_countBothAbove_39 hl (k := 5) rfl (nI_add k 1) (by decide) rfl (fun ls hl => ?_)
        refine lv_goto (tgt := 6) hx hb dX5_countBothAbove_42 (by decide) ?_
        exact ih_6 (k + 1) (by first | rfl | omega | (simp_all; done)) (by omega) ls (lvcv (l := [(0, .ref (a 2)), (1, .int (nI x)), (2, .int (nI y)), (3, .int (nI g)), (4, .int (nI (cG t x y g k))), (5, .int (nI (k + 1)))]) (lv_sub hl [1, 2, 3, 4, 5, 0] rfl) (lvC (lvC (lvC (lvC (lvI (congrArg nI (show cG t x y g k = cG t x y g (k + 1) from by first | rfl | (simp only [cG, sm_s]; split <;> first | omega | (simp_all; done) | (simp_all; omega)))) (lvC rfl)))))))
      refine lv_iinc (v := nI (cG t x y g k + 1)) (lv' := [(4, .int (nI (cG t x y g k + 1))), (0, .ref (a 2)), (1, .int (nI x)), (2, .int (nI y)), (3, .int (nI g)), (5, .int (nI k))]) hx hb dX5_countBothAbove_36 hl (k := 4) rfl (nI_add (cG t x y g k) 1) (by decide) rfl (fun ls hl => ?_)
      refine lv_iinc (v := nI (k + 1)) (lv' := [(5, .int (nI (k + 1))), (4, .int (nI (cG t x y g k + 1))), (0, .ref (a 2)), (1, .int (nI x)), (2, .int (nI y)), (3, .int (nI g))]) hx hb dX5_countBothAbove_39 hl (k := 5) rfl (nI_add k 1) (by decide) rfl (fun ls hl => ?_)
      refine lv_goto (tgt := 6) hx hb dX5_countBothAbove_42 (by decide) ?_
      exact ih_6 (k + 1) (by first | rfl | omega | (simp_all; done)) (by omega) ls (lvcv (l := [(0, .ref (a 2)), (1, .int (nI x)), (2, .int (nI y)), (3, .int (nI g)), (4, .int (nI (cG t x y g k + 1))), (5, .int (nI (k + 1)))]) (lv_sub hl [2, 3, 4, 5, 1, 0] rfl) (lvC (lvC (lvC (lvC (lvI (congrArg nI (show cG t x y g k + 1 = cG t x y g (k + 1) from by first | rfl | (simp only [cG, sm_s]; split <;> first | omega | (simp_all; done) | (simp_all; omega)))) (lvC rfl)))))))
  exact lp_6 (240 - 0 + 1) 0 (by first | rfl | omega | (simp_all; done)) (by omega) ls (lvcv (l := [(0, .ref (a 2)), (1, .int (nI x)), (2, .int (nI y)), (3, .int (nI g)), (4, .int (nI 0)), (5, .int (nI 0))]) (lv_sub hl [2, 3, 4, 5, 1, 0] rfl) (lvC (lvC (lvC (lvC (lvI (congrArg nI (show 0 = cG t x y g 0 from by first | rfl | (simp only [cG, sm_s]; split <;> first | omega | (simp_all; done) | (simp_all; omega)))) (lvC rfl)))))))

set_option maxHeartbeats 400000 in
set_option maxRecDepth 100000 in
theorem c_X5_factorOf (l : Launch) (G : va_G) (cI cJ : ClassId) (a : Nat → Nat) (ey : Int32) (le : Nat) (t : Nat → Nat) (bd : Nat → Int32) (bs : Nat → Int32) (x : Nat) (y : Nat) (tb : TB t) (hT : TT t bd bs) (h_x : x < 8) (h_y : y < 8) (h_n : x ≠ y) (hle : le ≤ 100) : Met l yX5_factorOf wsX5_factorOf ({ frames := 0, cells := 0, slots := 0, locals := 0 }) (roP G cI cJ [.ref (a 2), .int (nI x), .int (nI y)] [oTe a ey (nI le), aI cI (a 12) 64 bd, aI cI (a 13) 64 bs]) (vp_Si (fun r => r = oI (fc t le x y))) 0 0 (fun _ => False) := by
  refine Met.ofW (cc := cX5_factorOf) (maxL := 6) (ret := (some .int)) (by decide) rfl ?_
  intro pg ev s mt args below meth cd s₁ B hml hv
  obtain ⟨rfl, hP, hK⟩ := hv
  have hx := B.exec
  have hb := B.bytes
  have hr := B.returns
  have hts := atoms_spec (ws := wsX5_factorOf) B.pre
  have hown : s.vm.findClass RX5 = some mt.cls := findClass_of_methodNamed B.named
  have hlocks := B.notSynchronized
  have hP : va_P G vwCl [oTe a ey (nI le), aI cI (a 12) 64 bd, aI cI (a 13) 64 bs] s.heap := hP
  have hinX5 := (show ∀ w ∈ u_ws RX5 TX5 5, w ∈ wsX5_factorOf by decide +kernel)
  have fl18 := hts (.fieldLink RX5 18 "SpotRows$Tellings" "bothSums" "[I") (by decide +kernel)
  have fl15 := hts (.fieldLink RX5 15 "SpotRows$Tellings" "bothDays" "[I") (by decide +kernel)
  have fl31 := hts (.fieldLink RX5 31 "SpotRows$Tellings" "least" "I") (by decide +kernel)
  have hl := lv_entry ([.ref (a 2), .int (nI x), .int (nI y)]) (n := 6) (Nat.le_of_ble_eq_true rfl)
  rw [lg_entry_eq]
  generalize (lg_sl ([.ref (a 2), .int (nI x), .int (nI y)]) ++ List.replicate (6 - (lg_sl ([.ref (a 2), .int (nI x), .int (nI y)])).length) Slot.unset).toArray = ls at hl ⊢
  have hl : lv_has ls 6 [(0, .ref (a 2)), (1, .int (nI x)), (2, .int (nI y))] := hl
  have hs1 := sB_le tb x y 240
  have hs2 := sB_le tb y x 240
  have hc := cB_le t x y 240
  have hq := Nat.div_le_self (sB t y x 240 * 1000) (sB t x y 240)
  refine lv_aload_n hx hb dX5_factorOf_0 rfl (lv_at hl 0 rfl) ?_
  refine va_get (D := G) (own := RX5) (ref := "SpotRows$Tellings") (ci := 5) (v := .ref (a 13)) (C := RX5) (T := TX5) (N := 5) hx hb hts hinX5 hown hK.1 hP 0 rfl rfl 2 (by decide) fl18 (fun _ h9 => h9) rfl dX5_factorOf_1 ?_
  refine lv_iload_n hx hb dX5_factorOf_4 rfl (lv_at hl 1 rfl) ?_
  refine lv_bipush (v := nI 8) hx hb dX5_factorOf_5 (by decide) ?_
  refine lv_imul hx hb dX5_factorOf_7 ?_
  refine toi (pk_mul x 8) ?_
  refine lv_iload_n hx hb dX5_factorOf_8 rfl (lv_at hl 2 rfl) ?_
  refine lv_iadd hx hb dX5_factorOf_9 ?_
  refine toi (nI_add (x * 8) y) ?_
  refine ld_I hx hb hK hP 2 (k := x * 8 + y) rfl (by omega) (by decide) dX5_factorOf_10 ?_
  refine toi (show bs (x * 8 + y) = nI (sB t x y 240) from (hT x y h_x h_y h_n).2) ?_
  refine lv_istore_n (lv' := [(3, .int (nI (sB t x y 240))), (0, .ref (a 2)), (1, .int (nI x)), (2, .int (nI y))]) hx hb dX5_factorOf_11 rfl hl (by decide) rfl (fun ls hl => ?_)
  refine lv_aload_n hx hb dX5_factorOf_12 rfl (lv_at hl 1 rfl) ?_
  refine va_get (D := G) (own := RX5) (ref := "SpotRows$Tellings") (ci := 5) (v := .ref (a 13)) (C := RX5) (T := TX5) (N := 5) hx hb hts hinX5 hown hK.1 hP 0 rfl rfl 2 (by decide) fl18 (fun _ h9 => h9) rfl dX5_factorOf_13 ?_
  refine lv_iload_n hx hb dX5_factorOf_16 rfl (lv_at hl 3 rfl) ?_
  refine lv_bipush (v := nI 8) hx hb dX5_factorOf_17 (by decide) ?_
  refine lv_imul hx hb dX5_factorOf_19 ?_
  refine toi (pk_mul y 8) ?_
  refine lv_iload_n hx hb dX5_factorOf_20 rfl (lv_at hl 2 rfl) ?_
  refine lv_iadd hx hb dX5_factorOf_21 ?_
  refine toi (nI_add (y * 8) x) ?_
  refine ld_I hx hb hK hP 2 (k := y * 8 + x) rfl (by omega) (by decide) dX5_factorOf_22 ?_
  refine toi (show bs (y * 8 + x) = nI (sB t y x 240) from (hT y x h_y h_x (Ne.symm h_n)).2) ?_
  refine lv_istore (lv' := [(4, .int (nI (sB t y x 240))), (3, .int (nI (sB t x y 240))), (0, .ref (a 2)), (1, .int (nI x)), (2, .int (nI y))]) hx hb dX5_factorOf_23 hl (by decide) rfl (fun ls hl => ?_)
  refine lv_aload_n hx hb dX5_factorOf_25 rfl (lv_at hl 2 rfl) ?_
  refine va_get (D := G) (own := RX5) (ref := "SpotRows$Tellings") (ci := 5) (v := .ref (a 12)) (C := RX5) (T := TX5) (N := 5) hx hb hts hinX5 hown hK.1 hP 0 rfl rfl 1 (by decide) fl15 (fun _ h9 => h9) rfl dX5_factorOf_26 ?_
  refine lv_iload_n hx hb dX5_factorOf_29 rfl (lv_at hl 3 rfl) ?_
  refine lv_bipush (v := nI 8) hx hb dX5_factorOf_30 (by decide) ?_
  refine lv_imul hx hb dX5_factorOf_32 ?_
  refine toi (pk_mul x 8) ?_
  refine lv_iload_n hx hb dX5_factorOf_33 rfl (lv_at hl 4 rfl) ?_
  refine lv_iadd hx hb dX5_factorOf_34 ?_
  refine toi (nI_add (x * 8) y) ?_
  refine ld_I hx hb hK hP 1 (k := x * 8 + y) rfl (by omega) (by decide) dX5_factorOf_35 ?_
  refine toi (show bd (x * 8 + y) = nI (cB t x y 240) from (hT x y h_x h_y h_n).1) ?_
  refine lv_aload_n hx hb dX5_factorOf_36 rfl (lv_at hl 2 rfl) ?_
  refine va_get (D := G) (own := RX5) (ref := "SpotRows$Tellings") (ci := 5) (v := .int (nI le)) (C := RX5) (T := TX5) (N := 5) hx hb hts hinX5 hown hK.1 hP 0 rfl rfl 4 (by decide) fl31 (fun _ h9 => h9) rfl dX5_factorOf_37 ?_
  refine nv_icmp_lt (tgt := 52) hx hb dX5_factorOf_40 (by decide) (by omega) (by omega) (fun c_40 => ?_) (fun c_40 => ?_)
  · refine lv_iconst (v := (-1)) hx hb dX5_factorOf_52 (by decide) ?_
    exact W.iret (v := (-1)) hx hb hr (fun zt ht zw => ⟨_, rfl, (m1_o.trans (congrArg oI (show 0 = fc t le x y from by unfold fc fcv; (repeat' split) <;> omega))), ht⟩) (fun q hq => absurd hq List.not_mem_nil) dX5_factorOf_53
  refine lv_iload_n hx hb dX5_factorOf_43 rfl (lv_at hl 1 rfl) ?_
  refine nv_if_le (tgt := 52) hx hb dX5_factorOf_44 (by decide) (by omega) (fun c_44 => ?_) (fun c_44 => ?_)
  · refine lv_iconst (v := (-1)) hx hb dX5_factorOf_52 (by decide) ?_
    exact W.iret (v := (-1)) hx hb hr (fun zt ht zw => ⟨_, rfl, (m1_o.trans (congrArg oI (show 0 = fc t le x y from by unfold fc fcv; (repeat' split) <;> omega))), ht⟩) (fun q hq => absurd hq List.not_mem_nil) dX5_factorOf_53
  refine lv_iload hx hb dX5_factorOf_47 (lv_at hl 0 rfl) ?_
  refine nv_if_gt (tgt := 54) hx hb dX5_factorOf_49 (by decide) (by omega) (fun c_49 => ?_) (fun c_49 => ?_)
  · refine lv_iload hx hb dX5_factorOf_54 (lv_at hl 0 rfl) ?_
    refine lv_sipush (v := nI 1000) hx hb dX5_factorOf_56 (by decide) ?_
    refine lv_imul hx hb dX5_factorOf_59 ?_
    refine toi (pk_mul (sB t y x 240) 1000) ?_
    refine lv_iload_n hx hb dX5_factorOf_60 rfl (lv_at hl 1 rfl) ?_
    refine lv_idiv hx hb dX5_factorOf_61 (nI_ne0 (by omega) (by omega)) ?_
    refine toi (pk_div (a := (sB t y x 240 * 1000)) (d := (sB t x y 240)) (by omega) (by omega) (by omega)) ?_
    refine lv_istore (lv' := [(5, .int (nI (sB t y x 240 * 1000 / sB t x y 240))), (4, .int (nI (sB t y x 240))), (3, .int (nI (sB t x y 240))), (0, .ref (a 2)), (1, .int (nI x)), (2, .int (nI y))]) hx hb dX5_factorOf_62 hl (by decide) rfl (fun ls hl => ?_)
    refine lv_iload hx hb dX5_factorOf_64 (lv_at hl 0 rfl) ?_
    refine lv_bipush (v := nI 10) hx hb dX5_factorOf_66 (by decide) ?_
    refine nv_icmp_lt (tgt := 83) hx hb dX5_factorOf_68 (by decide) (by omega) (by omega) (fun c_68 => ?_) (fun c_68 => ?_)
    · refine lv_iconst (v := (-1)) hx hb dX5_factorOf_83 (by decide) ?_
      exact W.iret (v := (-1)) hx hb hr (fun zt ht zw => ⟨_, rfl, (m1_o.trans (congrArg oI (show 0 = fc t le x y from by unfold fc fcv; (repeat' split) <;> omega))), ht⟩) (fun q hq => absurd hq List.not_mem_nil) dX5_factorOf_84
    refine lv_iload hx hb dX5_factorOf_71 (lv_at hl 0 rfl) ?_
    refine lv_ldc (own := RX5) (v := 100000) hx hb hown (hts (.constant RX5 66 (100000)) (by decide +kernel)) dX5_factorOf_73 ?_
    refine toi (show (100000 : Int32) = nI 100000 by decide) ?_
    refine nv_icmp_gt (tgt := 83) hx hb dX5_factorOf_75 (by decide) (by omega) (by omega) (fun c_75 => ?_) (fun c_75 => ?_)
    · refine lv_iconst (v := (-1)) hx hb dX5_factorOf_83 (by decide) ?_
      exact W.iret (v := (-1)) hx hb hr (fun zt ht zw => ⟨_, rfl, (m1_o.trans (congrArg oI (show 0 = fc t le x y from by unfold fc fcv; (repeat' split) <;> omega))), ht⟩) (fun q hq => absurd hq List.not_mem_nil) dX5_factorOf_84
    refine lv_iload hx hb dX5_factorOf_78 (lv_at hl 0 rfl) ?_
    refine lv_goto (tgt := 84) hx hb dX5_factorOf_80 (by decide) ?_
    exact W.iret (v := nI (sB t y x 240 * 1000 / sB t x y 240)) hx hb hr (fun zt ht zw => ⟨_, rfl, ((nI_o (sB t y x 240 * 1000 / sB t x y 240)).trans (congrArg oI (show sB t y x 240 * 1000 / sB t x y 240 + 1 = fc t le x y from by unfold fc fcv; (repeat' split) <;> omega))), ht⟩) (fun q hq => absurd hq List.not_mem_nil) dX5_factorOf_84
  refine lv_iconst (v := (-1)) hx hb dX5_factorOf_52 (by decide) ?_
  exact W.iret (v := (-1)) hx hb hr (fun zt ht zw => ⟨_, rfl, (m1_o.trans (congrArg oI (show 0 = fc t le x y from by unfold fc fcv; (repeat' split) <;> omega))), ht⟩) (fun q hq => absurd hq List.not_mem_nil) dX5_factorOf_53
