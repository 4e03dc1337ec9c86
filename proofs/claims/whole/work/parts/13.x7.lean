set_option maxHeartbeats 400000 in
set_option maxRecDepth 100000 in
theorem c_X7_isEye (l : Launch) (G : va_G) (cI cJ : ClassId) (a : Nat → Nat) (oc : Int32) (ey : Nat) (le : Int32) (x : Int32) (hey : ey ≤ 8) : Met l yX7_isEye wsX7_isEye ({ frames := 0, cells := 0, slots := 0, locals := 0 }) (roP G cI cJ [.ref (a 0), .int x] [oX a oc, oTe a (nI ey) le]) (vp_Si (fun r => r = bi (rg x ey))) 0 0 (fun _ => False) := by
  refine Met.ofW (cc := cX7_isEye) (maxL := 2) (ret := (some .boolean)) (by decide) rfl ?_
  intro pg ev s mt args below meth cd s₁ B hml hv
  obtain ⟨rfl, hP, hK⟩ := hv
  have hx := B.exec
  have hb := B.bytes
  have hr := B.returns
  have hts := atoms_spec (ws := wsX7_isEye) B.pre
  have hown : s.vm.findClass RX7 = some mt.cls := findClass_of_methodNamed B.named
  have hlocks := B.notSynchronized
  have hP : va_P G vwCl [oX a oc, oTe a (nI ey) le] s.heap := hP
  have hinX7 := (show ∀ w ∈ u_ws RX7 TX7 8, w ∈ wsX7_isEye by decide +kernel)
  have fl19 := hts (.fieldLink RX7 19 "SpotRows" "tellings" "LSpotRows$Tellings;") (by decide +kernel)
  have hinX5 := (show ∀ w ∈ u_ws RX5 TX5 5, w ∈ wsX7_isEye by decide +kernel)
  have fn112 := va_Nw.use (A := ([.ref (a 0), .int x] : List Value).toArray) rfl (hK.2.1 (.fieldLinkNest "SpotRows" 112 "SpotRows$Tellings" "eyes" "I" "SpotRows") (by decide +kernel))
  have hl := lv_entry ([.ref (a 0), .int x]) (n := 2) (Nat.le_of_ble_eq_true rfl)
  rw [lg_entry_eq]
  generalize (lg_sl ([.ref (a 0), .int x]) ++ List.replicate (2 - (lg_sl ([.ref (a 0), .int x])).length) Slot.unset).toArray = ls at hl ⊢
  have hl : lv_has ls 2 [(0, .ref (a 0)), (1, .int x)] := hl
  refine lv_iload_n hx hb dX7_isEye_0 rfl (lv_at hl 1 rfl) ?_
  refine lv_if_lt (tgt := 19) hx hb dX7_isEye_1 (by decide) (fun c_1 => ?_) (fun c_1 => ?_)
  · refine lv_iconst (v := nI 0) hx hb dX7_isEye_19 (by decide) ?_
    exact W.zret (v := nI 0) hx hb hr rfl (fun zt ht zw => ⟨_, rfl, (show nI 0 = bi (rg x ey) from (bi_f (by first | exact nrg_lt c_1 | exact nrg_ge c_12 (by omega) | exact rg_of c_1 c_12 (by omega))).symm), ht⟩) (fun q hq => absurd hq List.not_mem_nil) dX7_isEye_20
  refine lv_iload_n hx hb dX7_isEye_4 rfl (lv_at hl 1 rfl) ?_
  refine lv_aload_n hx hb dX7_isEye_5 rfl (lv_at hl 0 rfl) ?_
  refine va_get (D := G) (own := RX7) (ref := "SpotRows") (ci := 7) (v := .ref (a 2)) (C := RX7) (T := TX7) (N := 8) hx hb hts hinX7 hown hK.1 hP 0 rfl rfl 1 (by decide) fl19 (fun _ h9 => h9) rfl dX7_isEye_6 ?_
  refine va_getN (D := G) (own := RX7) (host := "SpotRows") (ref := "SpotRows$Tellings") (ci := 5) (v := .int (nI ey)) (C := RX5) (T := TX5) (N := 5) hx hb hts hinX5 hown hK.1 hP 1 rfl rfl 3 (by decide) fn112 (fun _ h9 => h9) rfl dX7_isEye_9 ?_
  refine lv_icmp_ge (tgt := 19) hx hb dX7_isEye_12 (by decide) (fun c_12 => ?_) (fun c_12 => ?_)
  · refine lv_iconst (v := nI 0) hx hb dX7_isEye_19 (by decide) ?_
    exact W.zret (v := nI 0) hx hb hr rfl (fun zt ht zw => ⟨_, rfl, (show nI 0 = bi (rg x ey) from (bi_f (by first | exact nrg_lt c_1 | exact nrg_ge c_12 (by omega) | exact rg_of c_1 c_12 (by omega))).symm), ht⟩) (fun q hq => absurd hq List.not_mem_nil) dX7_isEye_20
  refine lv_iconst (v := nI 1) hx hb dX7_isEye_15 (by decide) ?_
  refine lv_goto (tgt := 20) hx hb dX7_isEye_16 (by decide) ?_
  exact W.zret (v := nI 1) hx hb hr rfl (fun zt ht zw => ⟨_, rfl, (show nI 1 = bi (rg x ey) from (bi_t (by first | exact nrg_lt c_1 | exact nrg_ge c_12 (by omega) | exact rg_of c_1 c_12 (by omega))).symm), ht⟩) (fun q hq => absurd hq List.not_mem_nil) dX7_isEye_20

set_option maxHeartbeats 400000 in
set_option maxRecDepth 100000 in
theorem c_X7_arePair (l : Launch) (G : va_G) (cI cJ : ClassId) (a : Nat → Nat) (oc : Int32) (ey : Nat) (le : Int32) (x : Int32) (y : Int32) (hey : ey ≤ 8) : Met l yX7_arePair wsX7_arePair ({ frames := 1, cells := 0, slots := 0, locals := 21 }) (roP G cI cJ [.ref (a 0), .int x, .int y] [oX a oc, oTe a (nI ey) le]) (vp_Si (fun r => r = bi (rg x ey ∧ rg y ey ∧ x ≠ y))) 0 0 (fun _ => False) := by
  refine Met.ofW (cc := cX7_arePair) (maxL := 3) (ret := (some .boolean)) (by decide) rfl ?_
  intro pg ev s mt args below meth cd s₁ B hml hv
  obtain ⟨rfl, hP, hK⟩ := hv
  have hx := B.exec
  have hb := B.bytes
  have hr := B.returns
  have hts := atoms_spec (ws := wsX7_arePair) B.pre
  have hown : s.vm.findClass RX7 = some mt.cls := findClass_of_methodNamed B.named
  have hlocks := B.notSynchronized
  have hP : va_P G vwCl [oX a oc, oTe a (nI ey) le] s.heap := hP
  have hl := lv_entry ([.ref (a 0), .int x, .int y]) (n := 3) (Nat.le_of_ble_eq_true rfl)
  rw [lg_entry_eq]
  generalize (lg_sl ([.ref (a 0), .int x, .int y]) ++ List.replicate (3 - (lg_sl ([.ref (a 0), .int x, .int y])).length) Slot.unset).toArray = ls at hl ⊢
  have hl : lv_has ls 3 [(0, .ref (a 0)), (1, .int x), (2, .int y)] := hl
  refine lv_aload_n hx hb dX7_arePair_0 rfl (lv_at hl 0 rfl) ?_
  refine lv_iload_n hx hb dX7_arePair_1 rfl (lv_at hl 1 rfl) ?_
  refine cro_i (va_runV (As := [.int x]) (rest := []) ⟨hx, hb, hml, hown, hts⟩ (c_X7_isEye l G cI cJ (a := a) (oc := oc) (ey := ey) (le := le) (x := x) (hey := by first | assumption | omega)) (cwV 1 hts gX7_arePair_X7_isEye rfl rfl rfl (by decide +kernel) ⟨Nat.le_of_ble_eq_true rfl, Nat.le_of_ble_eq_true rfl⟩) (preV_ro (wc := [oX a oc, oTe a (nI ey) le]) hK hP [0, 1] rfl 7 0 rfl rfl rfl) rfl rfl hl.1 rfl (lv_room (Nat.le_of_ble_eq_true rfl)) dX7_arePair_2 ⟨Nat.zero_le _, Nat.zero_le _⟩) ?_
  refine nb_if_eq (tgt := 25) hx hb dX7_arePair_5 (by decide) (fun c_5 => ?_) (fun c_5 => ?_)
  · refine lv_iconst (v := nI 0) hx hb dX7_arePair_25 (by decide) ?_
    exact W.zret (v := nI 0) hx hb hr rfl (fun zt ht zw => ⟨_, rfl, (show nI 0 = bi (rg x ey ∧ rg y ey ∧ x ≠ y) from (bi_f (by first | exact ⟨c_5, c_13, c_18⟩ | exact (fun h => c_5 h.1) | exact (fun h => c_13 h.2.1) | exact (fun h => h.2.2 c_18))).symm), ht⟩) (fun q hq => absurd hq List.not_mem_nil) dX7_arePair_26
  refine lv_aload_n hx hb dX7_arePair_8 rfl (lv_at hl 0 rfl) ?_
  refine lv_iload_n hx hb dX7_arePair_9 rfl (lv_at hl 2 rfl) ?_
  refine cro_i (va_runV (As := [.int y]) (rest := []) ⟨hx, hb, hml, hown, hts⟩ (c_X7_isEye l G cI cJ (a := a) (oc := oc) (ey := ey) (le := le) (x := y) (hey := by first | assumption | omega)) (cwV 1 hts gX7_arePair_X7_isEye rfl rfl rfl (by decide +kernel) ⟨Nat.le_of_ble_eq_true rfl, Nat.le_of_ble_eq_true rfl⟩) (preV_ro (wc := [oX a oc, oTe a (nI ey) le]) hK hP [0, 1] rfl 7 0 rfl rfl rfl) rfl rfl hl.1 rfl (lv_room (Nat.le_of_ble_eq_true rfl)) dX7_arePair_10 ⟨Nat.zero_le _, Nat.zero_le _⟩) ?_
  refine nb_if_eq (tgt := 25) hx hb dX7_arePair_13 (by decide) (fun c_13 => ?_) (fun c_13 => ?_)
  · refine lv_iconst (v := nI 0) hx hb dX7_arePair_25 (by decide) ?_
    exact W.zret (v := nI 0) hx hb hr rfl (fun zt ht zw => ⟨_, rfl, (show nI 0 = bi (rg x ey ∧ rg y ey ∧ x ≠ y) from (bi_f (by first | exact ⟨c_5, c_13, c_18⟩ | exact (fun h => c_5 h.1) | exact (fun h => c_13 h.2.1) | exact (fun h => h.2.2 c_18))).symm), ht⟩) (fun q hq => absurd hq List.not_mem_nil) dX7_arePair_26
  refine lv_iload_n hx hb dX7_arePair_16 rfl (lv_at hl 1 rfl) ?_
  refine lv_iload_n hx hb dX7_arePair_17 rfl (lv_at hl 2 rfl) ?_
  refine lv_icmp_eq (tgt := 25) hx hb dX7_arePair_18 (by decide) (fun c_18 => ?_) (fun c_18 => ?_)
  · refine lv_iconst (v := nI 0) hx hb dX7_arePair_25 (by decide) ?_
    exact W.zret (v := nI 0) hx hb hr rfl (fun zt ht zw => ⟨_, rfl, (show nI 0 = bi (rg x ey ∧ rg y ey ∧ x ≠ y) from (bi_f (by first | exact ⟨c_5, c_13, c_18⟩ | exact (fun h => c_5 h.1) | exact (fun h => c_13 h.2.1) | exact (fun h => h.2.2 c_18))).symm), ht⟩) (fun q hq => absurd hq List.not_mem_nil) dX7_arePair_26
  refine lv_iconst (v := nI 1) hx hb dX7_arePair_21 (by decide) ?_
  refine lv_goto (tgt := 26) hx hb dX7_arePair_22 (by decide) ?_
  exact W.zret (v := nI 1) hx hb hr rfl (fun zt ht zw => ⟨_, rfl, (show nI 1 = bi (rg x ey ∧ rg y ey ∧ x ≠ y) from (bi_t (by first | exact ⟨c_5, c_13, c_18⟩ | exact (fun h => c_5 h.1) | exact (fun h => c_13 h.2.1) | exact (fun h => h.2.2 c_18))).symm), ht⟩) (fun q hq => absurd hq List.not_mem_nil) dX7_arePair_26

set_option maxHeartbeats 400000 in
set_option maxRecDepth 100000 in
theorem c_X7_agree (l : Launch) (G : va_G) (cI cJ : ClassId) (a : Nat → Nat) (oc : Int32)  : Met l yX7_agree wsX7_agree ({ frames := 0, cells := 0, slots := 0, locals := 0 }) (rwP G cI cJ [.ref (a 0)] [oX a oc]) (rwQi G [oX a oc] (fun (r : Int32) (_ : Unit) => r = nI 1) (fun (_ : Unit) => [oX a (nI 0)])) 0 0 (ads [oX a oc]) := by
  refine Met.ofW (cc := cX7_agree) (maxL := 1) (ret := (some .boolean)) (by decide) rfl ?_
  intro pg ev s mt args below meth cd s₁ B hml hv
  obtain ⟨rfl, hP, hD0, hK⟩ := hv
  have hx := B.exec
  have hb := B.bytes
  have hr := B.returns
  have hts := atoms_spec (ws := wsX7_agree) B.pre
  have hown : s.vm.findClass RX7 = some mt.cls := findClass_of_methodNamed B.named
  have hlocks := B.notSynchronized
  have hD := ads_self hD0
  generalize hAe : ads [oX a oc] = A at hD ⊢
  have hS : va_S A s.heap s.heap [] := va_S.rf
  have hP : va_P G vwCl [oX a oc] s.heap := hP
  have hinX7 := (show ∀ w ∈ u_ws RX7 TX7 8, w ∈ wsX7_agree by decide +kernel)
  have fl58 := hts (.fieldLink RX7 58 "SpotRows" "outcome" "I") (by decide +kernel)
  have hl := lv_entry ([.ref (a 0)]) (n := 1) (Nat.le_of_ble_eq_true rfl)
  rw [lg_entry_eq]
  generalize (lg_sl ([.ref (a 0)]) ++ List.replicate (1 - (lg_sl ([.ref (a 0)])).length) Slot.unset).toArray = ls at hl ⊢
  have hl : lv_has ls 1 [(0, .ref (a 0))] := hl
  refine lv_aload_n hx hb dX7_agree_0 rfl (lv_at hl 0 rfl) ?_
  refine lv_iconst (v := nI 0) hx hb dX7_agree_1 (by decide) ?_
  refine va_put (D := G) (own := RX7) (ref := "SpotRows") (ci := 7) (v := .int (nI 0)) (ty := .int) (C := RX7) (T := TX7) (N := 8) hx hb hts hinX7 tyX7 tyX7_ok nmX7 hown hK.1 hP hD hS 0 rfl rfl 7 (by decide) fl58 (fun _ h9 => h9) rfl (by decide +kernel) rfl rfl (Nat.le_of_ble_eq_true rfl) dX7_agree_2 (fun H locs hP hD hS => ?_)
  have hP : va_P G vwCl [oX a (nI 0)] H := hP
  have hD : va_D A [oX a (nI 0)] := hD
  refine lv_iconst (v := nI 1) hx hb dX7_agree_5 (by decide) ?_
  exact W.zret (v := nI 1) hx hb hr rfl (fun zt ht zw => ⟨⟨_, (), rfl, rfl, by show va_P _ _ _ zt.heap; rw [ht]; exact hP⟩, by rw [hAe]; exact hS.F ht⟩) hS.2.2 dX7_agree_6

set_option maxHeartbeats 400000 in
set_option maxRecDepth 100000 in
theorem c_X7_refuse (l : Launch) (G : va_G) (cI cJ : ClassId) (a : Nat → Nat) (oc : Int32) (w : Int32)  : Met l yX7_refuse wsX7_refuse ({ frames := 0, cells := 0, slots := 0, locals := 0 }) (rwP G cI cJ [.ref (a 0), .int w] [oX a oc]) (rwQi G [oX a oc] (fun (r : Int32) (_ : Unit) => r = nI 0) (fun (_ : Unit) => [oX a w])) 0 0 (ads [oX a oc]) := by
  refine Met.ofW (cc := cX7_refuse) (maxL := 2) (ret := (some .boolean)) (by decide) rfl ?_
  intro pg ev s mt args below meth cd s₁ B hml hv
  obtain ⟨rfl, hP, hD0, hK⟩ := hv
  have hx := B.exec
  have hb := B.bytes
  have hr := B.returns
  have hts := atoms_spec (ws := wsX7_refuse) B.pre
  have hown : s.vm.findClass RX7 = some mt.cls := findClass_of_methodNamed B.named
  have hlocks := B.notSynchronized
  have hD := ads_self hD0
  generalize hAe : ads [oX a oc] = A at hD ⊢
  have hS : va_S A s.heap s.heap [] := va_S.rf
  have hP : va_P G vwCl [oX a oc] s.heap := hP
  have hinX7 := (show ∀ w ∈ u_ws RX7 TX7 8, w ∈ wsX7_refuse by decide +kernel)
  have fl58 := hts (.fieldLink RX7 58 "SpotRows" "outcome" "I") (by decide +kernel)
  have hl := lv_entry ([.ref (a 0), .int w]) (n := 2) (Nat.le_of_ble_eq_true rfl)
  rw [lg_entry_eq]
  generalize (lg_sl ([.ref (a 0), .int w]) ++ List.replicate (2 - (lg_sl ([.ref (a 0), .int w])).length) Slot.unset).toArray = ls at hl ⊢
  have hl : lv_has ls 2 [(0, .ref (a 0)), (1, .int w)] := hl
  refine lv_aload_n hx hb dX7_refuse_0 rfl (lv_at hl 0 rfl) ?_
  refine lv_iload_n hx hb dX7_refuse_1 rfl (lv_at hl 1 rfl) ?_
  refine va_put (D := G) (own := RX7) (ref := "SpotRows") (ci := 7) (v := .int w) (ty := .int) (C := RX7) (T := TX7) (N := 8) hx hb hts hinX7 tyX7 tyX7_ok nmX7 hown hK.1 hP hD hS 0 rfl rfl 7 (by decide) fl58 (fun _ h9 => h9) rfl (by decide +kernel) rfl rfl (Nat.le_of_ble_eq_true rfl) dX7_refuse_2 (fun H locs hP hD hS => ?_)
  have hP : va_P G vwCl [oX a w] H := hP
  have hD : va_D A [oX a w] := hD
  refine lv_iconst (v := nI 0) hx hb dX7_refuse_5 (by decide) ?_
  exact W.zret (v := nI 0) hx hb hr rfl (fun zt ht zw => ⟨⟨_, (), rfl, rfl, by show va_P _ _ _ zt.heap; rw [ht]; exact hP⟩, by rw [hAe]; exact hS.F ht⟩) hS.2.2 dX7_refuse_6

set_option maxHeartbeats 400000 in
set_option maxRecDepth 100000 in
theorem c_X7_answer (l : Launch) (G : va_G) (cI cJ : ClassId) (a : Nat → Nat) (oc : Int32) (w : Int32)  : Met l yX7_answer wsX7_answer ({ frames := 0, cells := 0, slots := 0, locals := 0 }) (rwP G cI cJ [.ref (a 0), .int w] [oX a oc]) (rwQi G [oX a oc] (fun (r : Int32) (_ : Unit) => r = w) (fun (_ : Unit) => [oX a (nI 0)])) 0 0 (ads [oX a oc]) := by
  refine Met.ofW (cc := cX7_answer) (maxL := 2) (ret := (some .int)) (by decide) rfl ?_
  intro pg ev s mt args below meth cd s₁ B hml hv
  obtain ⟨rfl, hP, hD0, hK⟩ := hv
  have hx := B.exec
  have hb := B.bytes
  have hr := B.returns
  have hts := atoms_spec (ws := wsX7_answer) B.pre
  have hown : s.vm.findClass RX7 = some mt.cls := findClass_of_methodNamed B.named
  have hlocks := B.notSynchronized
  have hD := ads_self hD0
  generalize hAe : ads [oX a oc] = A at hD ⊢
  have hS : va_S A s.heap s.heap [] := va_S.rf
  have hP : va_P G vwCl [oX a oc] s.heap := hP
  have hinX7 := (show ∀ w ∈ u_ws RX7 TX7 8, w ∈ wsX7_answer by decide +kernel)
  have fl58 := hts (.fieldLink RX7 58 "SpotRows" "outcome" "I") (by decide +kernel)
  have hl := lv_entry ([.ref (a 0), .int w]) (n := 2) (Nat.le_of_ble_eq_true rfl)
  rw [lg_entry_eq]
  generalize (lg_sl ([.ref (a 0), .int w]) ++ List.replicate (2 - (lg_sl ([.ref (a 0), .int w])).length) Slot.unset).toArray = ls at hl ⊢
  have hl : lv_has ls 2 [(0, .ref (a 0)), (1, .int w)] := hl
  refine lv_aload_n hx hb dX7_answer_0 rfl (lv_at hl 0 rfl) ?_
  refine lv_iconst (v := nI 0) hx hb dX7_answer_1 (by decide) ?_
  refine va_put (D := G) (own := RX7) (ref := "SpotRows") (ci := 7) (v := .int (nI 0)) (ty := .int) (C := RX7) (T := TX7) (N := 8) hx hb hts hinX7 tyX7 tyX7_ok nmX7 hown hK.1 hP hD hS 0 rfl rfl 7 (by decide) fl58 (fun _ h9 => h9) rfl (by decide +kernel) rfl rfl (Nat.le_of_ble_eq_true rfl) dX7_answer_2 (fun H locs hP hD hS => ?_)
  have hP : va_P G vwCl [oX a (nI 0)] H := hP
  have hD : va_D A [oX a (nI 0)] := hD
  refine lv_iload_n hx hb dX7_answer_5 rfl (lv_at hl 1 rfl) ?_
  exact W.iret (v := w) hx hb hr (fun zt ht zw => ⟨⟨_, (), rfl, rfl, by show va_P _ _ _ zt.heap; rw [ht]; exact hP⟩, by rw [hAe]; exact hS.F ht⟩) hS.2.2 dX7_answer_6

set_option maxHeartbeats 400000 in
set_option maxRecDepth 100000 in
theorem c_X7_lack (l : Launch) (G : va_G) (cI cJ : ClassId) (a : Nat → Nat) (oc : Int32) (w : Int32)  : Met l yX7_lack wsX7_lack ({ frames := 0, cells := 0, slots := 0, locals := 0 }) (rwP G cI cJ [.ref (a 0), .int w] [oX a oc]) (rwQi G [oX a oc] (fun (r : Int32) (_ : Unit) => r = (-1)) (fun (_ : Unit) => [oX a w])) 0 0 (ads [oX a oc]) := by
  refine Met.ofW (cc := cX7_lack) (maxL := 2) (ret := (some .int)) (by decide) rfl ?_
  intro pg ev s mt args below meth cd s₁ B hml hv
  obtain ⟨rfl, hP, hD0, hK⟩ := hv
  have hx := B.exec
  have hb := B.bytes
  have hr := B.returns
  have hts := atoms_spec (ws := wsX7_lack) B.pre
  have hown : s.vm.findClass RX7 = some mt.cls := findClass_of_methodNamed B.named
  have hlocks := B.notSynchronized
  have hD := ads_self hD0
  generalize hAe : ads [oX a oc] = A at hD ⊢
  have hS : va_S A s.heap s.heap [] := va_S.rf
  have hP : va_P G vwCl [oX a oc] s.heap := hP
  have hinX7 := (show ∀ w ∈ u_ws RX7 TX7 8, w ∈ wsX7_lack by decide +kernel)
  have fl58 := hts (.fieldLink RX7 58 "SpotRows" "outcome" "I") (by decide +kernel)
  have hl := lv_entry ([.ref (a 0), .int w]) (n := 2) (Nat.le_of_ble_eq_true rfl)
  rw [lg_entry_eq]
  generalize (lg_sl ([.ref (a 0), .int w]) ++ List.replicate (2 - (lg_sl ([.ref (a 0), .int w])).length) Slot.unset).toArray = ls at hl ⊢
  have hl : lv_has ls 2 [(0, .ref (a 0)), (1, .int w)] := hl
  refine lv_aload_n hx hb dX7_lack_0 rfl (lv_at hl 0 rfl) ?_
  refine lv_iload_n hx hb dX7_lack_1 rfl (lv_at hl 1 rfl) ?_
  refine va_put (D := G) (own := RX7) (ref := "SpotRows") (ci := 7) (v := .int w) (ty := .int) (C := RX7) (T := TX7) (N := 8) hx hb hts hinX7 tyX7 tyX7_ok nmX7 hown hK.1 hP hD hS 0 rfl rfl 7 (by decide) fl58 (fun _ h9 => h9) rfl (by decide +kernel) rfl rfl (Nat.le_of_ble_eq_true rfl) dX7_lack_2 (fun H locs hP hD hS => ?_)
  have hP : va_P G vwCl [oX a w] H := hP
  have hD : va_D A [oX a w] := hD
  refine lv_iconst (v := (-1)) hx hb dX7_lack_5 (by decide) ?_
  exact W.iret (v := (-1)) hx hb hr (fun zt ht zw => ⟨⟨_, (), rfl, rfl, by show va_P _ _ _ zt.heap; rw [ht]; exact hP⟩, by rw [hAe]; exact hS.F ht⟩) hS.2.2 dX7_lack_6

set_option maxHeartbeats 400000 in
set_option maxRecDepth 100000 in
theorem c_X7_answerOr (l : Launch) (G : va_G) (cI cJ : ClassId) (a : Nat → Nat) (oc : Int32) (w : Nat) (k : Nat) (h1 : k ≤ 2 ^ 31) : Met l yX7_answerOr wsX7_answerOr ({ frames := 1, cells := 0, slots := 0, locals := 21 }) (rwP G cI cJ [.ref (a 0), .int (nI w), .int (oI k)] [oX a oc]) (rwQi G [oX a oc] (fun (r : Int32) (_ : Unit) => r = oI k) (fun (_ : Unit) => [oX a (nI (if k = 0 then w else 0))])) 0 0 (ads [oX a oc]) := by
  refine Met.ofW (cc := cX7_answerOr) (maxL := 3) (ret := (some .int)) (by decide) rfl ?_
  intro pg ev s mt args below meth cd s₁ B hml hv
  obtain ⟨rfl, hP, hD0, hK⟩ := hv
  have hx := B.exec
  have hb := B.bytes
  have hr := B.returns
  have hts := atoms_spec (ws := wsX7_answerOr) B.pre
  have hown : s.vm.findClass RX7 = some mt.cls := findClass_of_methodNamed B.named
  have hlocks := B.notSynchronized
  have hD := ads_self hD0
  generalize hAe : ads [oX a oc] = A at hD ⊢
  have hS : va_S A s.heap s.heap [] := va_S.rf
  have hP : va_P G vwCl [oX a oc] s.heap := hP
  have hl := lv_entry ([.ref (a 0), .int (nI w), .int (oI k)]) (n := 3) (Nat.le_of_ble_eq_true rfl)
  rw [lg_entry_eq]
  generalize (lg_sl ([.ref (a 0), .int (nI w), .int (oI k)]) ++ List.replicate (3 - (lg_sl ([.ref (a 0), .int (nI w), .int (oI k)])).length) Slot.unset).toArray = ls at hl ⊢
  have hl : lv_has ls 3 [(0, .ref (a 0)), (1, .int (nI w)), (2, .int (oI k))] := hl
  refine lv_iload_n hx hb dX7_answerOr_0 rfl (lv_at hl 2 rfl) ?_
  refine lv_iconst (v := (-1)) hx hb dX7_answerOr_1 (by decide) ?_
  refine no_icmp_ne (tgt := 13) hx hb dX7_answerOr_2 (by decide) (by omega) (fun c_2 => ?_) (fun c_2 => ?_)
  · refine lv_aload_n hx hb dX7_answerOr_13 rfl (lv_at hl 0 rfl) ?_
    refine lv_iload_n hx hb dX7_answerOr_14 rfl (lv_at hl 2 rfl) ?_
    refine toi (oI_pos (by first | assumption | omega)) ?_
    refine crw_i (va_runV (As := [.int (nI (k - 1))]) (rest := []) ⟨hx, hb, hml, hown, hts⟩ (c_X7_answer l G cI cJ (a := a) (oc := oc) (w := nI (k - 1)) ) (cwV 1 hts gX7_answerOr_X7_answer rfl rfl rfl (by decide +kernel) ⟨Nat.le_of_ble_eq_true rfl, Nat.le_of_ble_eq_true rfl⟩) (preV_rw (wc := [oX a oc]) hK hP hD [0] rfl rfl 7 0 rfl rfl rfl) rfl rfl hl.1 rfl (lv_room (Nat.le_of_ble_eq_true rfl)) dX7_answerOr_15 ⟨Nat.zero_le _, Nat.zero_le _⟩) hP hD hS [0] rfl [a 0] (fun u => rfl) rfl (fun r_15 u_ H locs hw_15 hP hD hS => ?_)
    have hP : va_P G vwCl [oX a (nI 0)] H := hP
    have hD : va_D A [oX a (nI 0)] := hD
    refine toi hw_15 ?_
    have hP : va_P G vwCl [oX a (nI (if k = 0 then w else 0))] H := by
      have ew : ([oX a (nI 0)] : va_W) = [oX a (nI (if k = 0 then w else 0))] := (wvC (congrArg (fun zz => oX a zz) (show nI 0 = nI (if k = 0 then w else 0) from (congrArg nI (show 0 = (if k = 0 then w else 0) from by first | omega | simp [c_2])))) rfl)
      rw [← ew]; exact hP
    exact W.iret (v := nI (k - 1)) hx hb hr (fun zt ht zw => ⟨⟨_, (), rfl, ((nI_o (k - 1)).trans (congrArg oI (show (k - 1) + 1 = k from by first | omega | simp [c_2]))), by show va_P _ _ _ zt.heap; rw [ht]; exact hP⟩, by rw [hAe]; exact hS.F ht⟩) hS.2.2 dX7_answerOr_18
  refine lv_aload_n hx hb dX7_answerOr_5 rfl (lv_at hl 0 rfl) ?_
  refine lv_iload_n hx hb dX7_answerOr_6 rfl (lv_at hl 1 rfl) ?_
  refine crw_i (va_runV (As := [.int (nI w)]) (rest := []) ⟨hx, hb, hml, hown, hts⟩ (c_X7_lack l G cI cJ (a := a) (oc := oc) (w := nI w) ) (cwV 1 hts gX7_answerOr_X7_lack rfl rfl rfl (by decide +kernel) ⟨Nat.le_of_ble_eq_true rfl, Nat.le_of_ble_eq_true rfl⟩) (preV_rw (wc := [oX a oc]) hK hP hD [0] rfl rfl 7 0 rfl rfl rfl) rfl rfl hl.1 rfl (lv_room (Nat.le_of_ble_eq_true rfl)) dX7_answerOr_7 ⟨Nat.zero_le _, Nat.zero_le _⟩) hP hD hS [0] rfl [a 0] (fun u => rfl) rfl (fun r_7 u_ H locs hw_7 hP hD hS => ?_)
  have hP : va_P G vwCl [oX a (nI w)] H := hP
  have hD : va_D A [oX a (nI w)] := hD
  refine toi hw_7 ?_
  refine lv_goto (tgt := 18) hx hb dX7_answerOr_10 (by decide) ?_
  have hP : va_P G vwCl [oX a (nI (if k = 0 then w else 0))] H := by
    have ew : ([oX a (nI w)] : va_W) = [oX a (nI (if k = 0 then w else 0))] := (wvC (congrArg (fun zz => oX a zz) (show nI w = nI (if k = 0 then w else 0) from (congrArg nI (show w = (if k = 0 then w else 0) from by first | omega | simp [c_2])))) rfl)
    rw [← ew]; exact hP
  exact W.iret (v := (-1)) hx hb hr (fun zt ht zw => ⟨⟨_, (), rfl, (m1_o.trans (congrArg oI (show 0 = k from by first | omega | simp [c_2]))), by show va_P _ _ _ zt.heap; rw [ht]; exact hP⟩, by rw [hAe]; exact hS.F ht⟩) hS.2.2 dX7_answerOr_18

set_option maxHeartbeats 400000 in
set_option maxRecDepth 100000 in
theorem c_X7_tellFraction (l : Launch) (G : va_G) (cI cJ : ClassId) (a : Nat → Nat) (oc : Int32) (up : Int64) (lo : Int64) (x : Nat) (y : Nat) (h1 : x < 2 ^ 31) (h2 : y < 2 ^ 31) (h3 : 0 < y) : Met l yX7_tellFraction wsX7_tellFraction ({ frames := 2, cells := 0, slots := 0, locals := 48 }) (rwP G cI cJ [.ref (a 0), .int (nI x), .int (nI y)] [oX a oc, oFr a up lo]) (rwQi G [oX a oc, oFr a up lo] (fun (r : Int32) (_ : Unit) => r = nI (if 0 < x then 1 else 0)) (fun (_ : Unit) => [oX a (nI 0), oFr a (lN (x / Nat.gcd x y)) (lN (y / Nat.gcd x y))])) 0 0 (ads [oX a oc, oFr a up lo]) := by
  refine Met.ofW (cc := cX7_tellFraction) (maxL := 3) (ret := (some .int)) (by decide) rfl ?_
  intro pg ev s mt args below meth cd s₁ B hml hv
  obtain ⟨rfl, hP, hD0, hK⟩ := hv
  have hx := B.exec
  have hb := B.bytes
  have hr := B.returns
  have hts := atoms_spec (ws := wsX7_tellFraction) B.pre
  have hown : s.vm.findClass RX7 = some mt.cls := findClass_of_methodNamed B.named
  have hlocks := B.notSynchronized
  have hD := ads_self hD0
  generalize hAe : ads [oX a oc, oFr a up lo] = A at hD ⊢
  have hS : va_S A s.heap s.heap [] := va_S.rf
  have hP : va_P G vwCl [oX a oc, oFr a up lo] s.heap := hP
  have hinX7 := (show ∀ w ∈ u_ws RX7 TX7 8, w ∈ wsX7_tellFraction by decide +kernel)
  have fl54 := hts (.fieldLink RX7 54 "SpotRows" "latest" "LSpotRows$Fraction;") (by decide +kernel)
  have hl := lv_entry ([.ref (a 0), .int (nI x), .int (nI y)]) (n := 3) (Nat.le_of_ble_eq_true rfl)
  rw [lg_entry_eq]
  generalize (lg_sl ([.ref (a 0), .int (nI x), .int (nI y)]) ++ List.replicate (3 - (lg_sl ([.ref (a 0), .int (nI x), .int (nI y)])).length) Slot.unset).toArray = ls at hl ⊢
  have hl : lv_has ls 3 [(0, .ref (a 0)), (1, .int (nI x)), (2, .int (nI y))] := hl
  refine lv_aload_n hx hb dX7_tellFraction_0 rfl (lv_at hl 0 rfl) ?_
  refine va_get (D := G) (own := RX7) (ref := "SpotRows") (ci := 7) (v := .ref (a 7)) (C := RX7) (T := TX7) (N := 8) hx hb hts hinX7 hown hK.1 hP 0 rfl rfl 6 (by decide) fl54 (fun _ h9 => h9) rfl dX7_tellFraction_1 ?_
  refine lv_iload_n hx hb dX7_tellFraction_4 rfl (lv_at hl 1 rfl) ?_
  refine lv_iload_n hx hb dX7_tellFraction_5 rfl (lv_at hl 2 rfl) ?_
  refine crw_v (free := fun _ => True) (va_runV (As := [.int (nI x), .int (nI y)]) (rest := []) ⟨hx, hb, hml, hown, hts⟩ (c_X1_put l G cI cJ (a := a) (up := up) (lo := lo) (x := x) (y := y) (h1 := by first | assumption | omega) (h2 := by first | assumption | omega) (h3 := by first | assumption | omega)) (cwV 2 hts gX7_tellFraction_X1_put rfl rfl rfl (by decide +kernel) ⟨Nat.le_of_ble_eq_true rfl, Nat.le_of_ble_eq_true rfl⟩) (preV_rw (wc := [oFr a up lo]) hK hP hD [1] rfl rfl 1 1 rfl rfl rfl) rfl rfl hl.1 rfl (lv_room (Nat.le_of_ble_eq_true rfl)) dX7_tellFraction_6 ⟨Nat.zero_le _, Nat.zero_le _⟩) hP hD hS [1] rfl [a 7] (fun u => rfl) rfl (fun u_ H locs hw_6 hP hD hS => ?_)
  have hP : va_P G vwCl [oX a oc, oFr a (lN (x / Nat.gcd x y)) (lN (y / Nat.gcd x y))] H := hP
  have hD : va_D A [oX a oc, oFr a (lN (x / Nat.gcd x y)) (lN (y / Nat.gcd x y))] := hD
  refine lv_aload_n hx hb dX7_tellFraction_9 rfl (lv_at hl 0 rfl) ?_
  refine lv_iload_n hx hb dX7_tellFraction_10 rfl (lv_at hl 1 rfl) ?_
  refine nv_if_le (tgt := 18) hx hb dX7_tellFraction_11 (by decide) (by omega) (fun c_11 => ?_) (fun c_11 => ?_)
  · refine lv_iconst (v := nI 0) hx hb dX7_tellFraction_18 (by decide) ?_
    refine crw_i (va_runV (As := [.int (nI 0)]) (rest := []) ⟨hx, hb, hml, hown, hts⟩ (c_X7_answer l G cI cJ (a := a) (oc := oc) (w := nI 0) ) (cwV 1 hts gX7_tellFraction_X7_answer rfl rfl rfl (by decide +kernel) ⟨Nat.le_of_ble_eq_true rfl, Nat.le_of_ble_eq_true rfl⟩) (preV_rw (wc := [oX a oc]) hK hP hD [0] rfl rfl 7 0 rfl rfl rfl) rfl rfl hl.1 rfl (lv_room (Nat.le_of_ble_eq_true rfl)) dX7_tellFraction_19 ⟨Nat.zero_le _, Nat.zero_le _⟩) hP hD hS [0] rfl [a 0] (fun u => rfl) rfl (fun r_19 u_ H locs hw_19 hP hD hS => ?_)
    have hP : va_P G vwCl [oX a (nI 0), oFr a (lN (x / Nat.gcd x y)) (lN (y / Nat.gcd x y))] H := hP
    have hD : va_D A [oX a (nI 0), oFr a (lN (x / Nat.gcd x y)) (lN (y / Nat.gcd x y))] := hD
    refine toi hw_19 ?_
    exact W.iret (v := nI 0) hx hb hr (fun zt ht zw => ⟨⟨_, (), rfl, (congrArg nI (show 0 = (if 0 < x then 1 else 0) from by first | (rw [if_pos (by omega)]) | (rw [if_neg (by omega)]))), by show va_P _ _ _ zt.heap; rw [ht]; exact hP⟩, by rw [hAe]; exact hS.F ht⟩) hS.2.2 dX7_tellFraction_22
  refine lv_iconst (v := nI 1) hx hb dX7_tellFraction_14 (by decide) ?_
  refine lv_goto (tgt := 19) hx hb dX7_tellFraction_15 (by decide) ?_
  refine crw_i (va_runV (As := [.int (nI 1)]) (rest := []) ⟨hx, hb, hml, hown, hts⟩ (c_X7_answer l G cI cJ (a := a) (oc := oc) (w := nI 1) ) (cwV 1 hts gX7_tellFraction_X7_answer rfl rfl rfl (by decide +kernel) ⟨Nat.le_of_ble_eq_true rfl, Nat.le_of_ble_eq_true rfl⟩) (preV_rw (wc := [oX a oc]) hK hP hD [0] rfl rfl 7 0 rfl rfl rfl) rfl rfl hl.1 rfl (lv_room (Nat.le_of_ble_eq_true rfl)) dX7_tellFraction_19 ⟨Nat.zero_le _, Nat.zero_le _⟩) hP hD hS [0] rfl [a 0] (fun u => rfl) rfl (fun r_19 u_ H locs hw_19 hP hD hS => ?_)
  have hP : va_P G vwCl [oX a (nI 0), oFr a (lN (x / Nat.gcd x y)) (lN (y / Nat.gcd x y))] H := hP
  have hD : va_D A [oX a (nI 0), oFr a (lN (x / Nat.gcd x y)) (lN (y / Nat.gcd x y))] := hD
  refine toi hw_19 ?_
  exact W.iret (v := nI 1) hx hb hr (fun zt ht zw => ⟨⟨_, (), rfl, (congrArg nI (show 1 = (if 0 < x then 1 else 0) from by first | (rw [if_pos (by omega)]) | (rw [if_neg (by omega)]))), by show va_P _ _ _ zt.heap; rw [ht]; exact hP⟩, by rw [hAe]; exact hS.F ht⟩) hS.2.2 dX7_tellFraction_22

set_option maxHeartbeats 400000 in
set_option maxRecDepth 100000 in
theorem c_X7_whyNoPour (l : Launch) (G : va_G) (cI cJ : ClassId) (a : Nat → Nat) (oc : Int32) (so : Nat → Nat) (sz : Nat → Nat) (fr : Int32) (pl : Int32) (to : Int32) (at_ : Int32) (mn : Int32) (ts : TS so sz) : Met l yX7_whyNoPour wsX7_whyNoPour ({ frames := 1, cells := 0, slots := 0, locals := 23 }) (roP G cI cJ [.ref (a 0), .int fr, .int pl, .int to, .int at_, .int mn] [oX a oc, oTr a, aI cI (a 9) 4 (oF so), aI cI (a 10) 4 (nF sz)]) (vp_Si (fun r => r = nI (wpo so sz fr pl to at_ mn))) 0 0 (fun _ => False) := by
  refine Met.ofW (cc := cX7_whyNoPour) (maxL := 6) (ret := (some .int)) (by decide) rfl ?_
  intro pg ev s mt args below meth cd s₁ B hml hv
  obtain ⟨rfl, hP, hK⟩ := hv
  have hx := B.exec
  have hb := B.bytes
  have hr := B.returns
  have hts := atoms_spec (ws := wsX7_whyNoPour) B.pre
  have hown : s.vm.findClass RX7 = some mt.cls := findClass_of_methodNamed B.named
  have hlocks := B.notSynchronized
  have hP : va_P G vwCl [oX a oc, oTr a, aI cI (a 9) 4 (oF so), aI cI (a 10) 4 (nF sz)] s.heap := hP
  have hinX7 := (show ∀ w ∈ u_ws RX7 TX7 8, w ∈ wsX7_whyNoPour by decide +kernel)
  have fl10 := hts (.fieldLink RX7 10 "SpotRows" "trays" "LSpotRows$Trays;") (by decide +kernel)
  have hl := lv_entry ([.ref (a 0), .int fr, .int pl, .int to, .int at_, .int mn]) (n := 6) (Nat.le_of_ble_eq_true rfl)
  rw [lg_entry_eq]
  generalize (lg_sl ([.ref (a 0), .int fr, .int pl, .int to, .int at_, .int mn]) ++ List.replicate (6 - (lg_sl ([.ref (a 0), .int fr, .int pl, .int to, .int at_, .int mn])).length) Slot.unset).toArray = ls at hl ⊢
  have hl : lv_has ls 6 [(0, .ref (a 0)), (1, .int fr), (2, .int pl), (3, .int to), (4, .int at_), (5, .int mn)] := hl
  refine lv_iload_n hx hb dX7_whyNoPour_0 rfl (lv_at hl 1 rfl) ?_
  refine lv_iconst (v := nI 3) hx hb dX7_whyNoPour_1 (by decide) ?_
  refine cro_i (va_runS (As := [.int fr, .int (nI 3)]) (rest := []) ⟨hx, hb, hml, hown, hts⟩ (c_X7_isWithin l G cI cJ (x := fr) (k := 3) (hk := by first | assumption | omega)) (va_cwS 2 hts gX7_whyNoPour_X7_isWithin rfl rfl rfl (by decide +kernel) ⟨Nat.le_of_ble_eq_true rfl, Nat.le_of_ble_eq_true rfl⟩) (preS_ro (wc := []) hK hP [] rfl) rfl rfl hl.1 rfl (lv_room (Nat.le_of_ble_eq_true rfl)) dX7_whyNoPour_2 ⟨Nat.zero_le _, Nat.zero_le _⟩) ?_
  refine nb_if_eq (tgt := 16) hx hb dX7_whyNoPour_5 (by decide) (fun c_5 => ?_) (fun c_5 => ?_)
  · refine lv_iconst (v := nI 1) hx hb dX7_whyNoPour_16 (by decide) ?_
    exact W.iret (v := nI 1) hx hb hr (fun zt ht zw => ⟨_, rfl, (congrArg nI (show 1 = (wpo so sz fr pl to at_ mn) from by unfold wpo; rw [cif_neg (by first | exact fun h => c_5 h.1 | exact fun h => c_13 h.2.1)])), ht⟩) (fun q hq => absurd hq List.not_mem_nil) dX7_whyNoPour_17
  obtain ⟨j_fr, h_fr, rfl⟩ := rg_ex c_5
  have e_fr := nn_nI (j := j_fr) (by omega)
  refine lv_iload_n hx hb dX7_whyNoPour_8 rfl (lv_at hl 3 rfl) ?_
  refine lv_iconst (v := nI 3) hx hb dX7_whyNoPour_9 (by decide) ?_
  refine cro_i (va_runS (As := [.int to, .int (nI 3)]) (rest := []) ⟨hx, hb, hml, hown, hts⟩ (c_X7_isWithin l G cI cJ (x := to) (k := 3) (hk := by first | assumption | omega)) (va_cwS 2 hts gX7_whyNoPour_X7_isWithin rfl rfl rfl (by decide +kernel) ⟨Nat.le_of_ble_eq_true rfl, Nat.le_of_ble_eq_true rfl⟩) (preS_ro (wc := []) hK hP [] rfl) rfl rfl hl.1 rfl (lv_room (Nat.le_of_ble_eq_true rfl)) dX7_whyNoPour_10 ⟨Nat.zero_le _, Nat.zero_le _⟩) ?_
  refine nb_if_ne (tgt := 18) hx hb dX7_whyNoPour_13 (by decide) (fun c_13 => ?_) (fun c_13 => ?_)
  · obtain ⟨j_to, h_to, rfl⟩ := rg_ex c_13
    have e_to := nn_nI (j := j_to) (by omega)
    refine lv_iload_n hx hb dX7_whyNoPour_18 rfl (lv_at hl 2 rfl) ?_
    refine lv_if_lt (tgt := 32) hx hb dX7_whyNoPour_19 (by decide) (fun c_19 => ?_) (fun c_19 => ?_)
    · refine lv_iconst (v := nI 1) hx hb dX7_whyNoPour_32 (by decide) ?_
      exact W.iret (v := nI 1) hx hb hr (fun zt ht zw => ⟨_, rfl, (congrArg nI (show 1 = (wpo so sz (nI j_fr) pl (nI j_to) at_ mn) from by unfold wpo; rw [cif_neg (by first | exact fun h => h.2.2.1 c_19 | exact fun h => h.2.2.2.1 c_24 | exact fun h => h.2.2.2.2 (Int32.not_le.mp c_29))])), ht⟩) (fun q hq => absurd hq List.not_mem_nil) dX7_whyNoPour_33
    obtain ⟨j_pl, h_pl, rfl⟩ := nI_of c_19
    have e_pl := nn_nI (j := j_pl) h_pl
    refine lv_iload hx hb dX7_whyNoPour_22 (lv_at hl 4 rfl) ?_
    refine lv_if_lt (tgt := 32) hx hb dX7_whyNoPour_24 (by decide) (fun c_24 => ?_) (fun c_24 => ?_)
    · refine lv_iconst (v := nI 1) hx hb dX7_whyNoPour_32 (by decide) ?_
      exact W.iret (v := nI 1) hx hb hr (fun zt ht zw => ⟨_, rfl, (congrArg nI (show 1 = (wpo so sz (nI j_fr) (nI j_pl) (nI j_to) at_ mn) from by unfold wpo; rw [cif_neg (by first | exact fun h => h.2.2.1 c_19 | exact fun h => h.2.2.2.1 c_24 | exact fun h => h.2.2.2.2 (Int32.not_le.mp c_29))])), ht⟩) (fun q hq => absurd hq List.not_mem_nil) dX7_whyNoPour_33
    obtain ⟨j_at_, h_at_, rfl⟩ := nI_of c_24
    have e_at_ := nn_nI (j := j_at_) h_at_
    refine lv_iload hx hb dX7_whyNoPour_27 (lv_at hl 5 rfl) ?_
    refine lv_if_ge (tgt := 34) hx hb dX7_whyNoPour_29 (by decide) (fun c_29 => ?_) (fun c_29 => ?_)
    · obtain ⟨j_mn, h_mn, rfl⟩ := nI_of (Int32.not_lt.mpr c_29)
      have e_mn := nn_nI (j := j_mn) h_mn
      refine lv_aload_n hx hb dX7_whyNoPour_34 rfl (lv_at hl 0 rfl) ?_
      refine va_get (D := G) (own := RX7) (ref := "SpotRows") (ci := 7) (v := .ref (a 1)) (C := RX7) (T := TX7) (N := 8) hx hb hts hinX7 hown hK.1 hP 0 rfl rfl 0 (by decide) fl10 (fun _ h9 => h9) rfl dX7_whyNoPour_35 ?_
      refine lv_iload_n hx hb dX7_whyNoPour_38 rfl (lv_at hl 1 rfl) ?_
      refine cro_i (va_runV (As := [.int (nI j_fr)]) (rest := []) ⟨hx, hb, hml, hown, hts⟩ (c_X6_isMissing l G cI cJ (a := a) (so := so) (sz := sz) (tr := j_fr) (ts := by first | assumption | omega) (h1 := by first | assumption | omega)) (cwV 1 hts gX7_whyNoPour_X6_isMissing rfl rfl rfl (by decide +kernel) ⟨Nat.le_of_ble_eq_true rfl, Nat.le_of_ble_eq_true rfl⟩) (preV_ro (wc := [oTr a, aI cI (a 9) 4 (oF so)]) hK hP [1, 2] rfl 6 1 rfl rfl rfl) rfl rfl hl.1 rfl (lv_room (Nat.le_of_ble_eq_true rfl)) dX7_whyNoPour_39 ⟨Nat.zero_le _, Nat.zero_le _⟩) ?_
      refine nb_if_ne (tgt := 56) hx hb dX7_whyNoPour_42 (by decide) (fun c_42 => ?_) (fun c_42 => ?_)
      · refine lv_iconst (v := nI 2) hx hb dX7_whyNoPour_56 (by decide) ?_
        exact W.iret (v := nI 2) hx hb hr (fun zt ht zw => ⟨_, rfl, (congrArg nI (show 2 = (wpo so sz (nI j_fr) (nI j_pl) (nI j_to) (nI j_at_) (nI j_mn)) from by unfold wpo; rw [cif_pos ⟨c_5, c_13, c_19, c_24, Int32.not_lt.mpr c_29⟩, e_fr, e_to, if_pos (by first | exact Or.inl c_42 | exact Or.inr c_53)])), ht⟩) (fun q hq => absurd hq List.not_mem_nil) dX7_whyNoPour_57
      refine lv_aload_n hx hb dX7_whyNoPour_45 rfl (lv_at hl 0 rfl) ?_
      refine va_get (D := G) (own := RX7) (ref := "SpotRows") (ci := 7) (v := .ref (a 1)) (C := RX7) (T := TX7) (N := 8) hx hb hts hinX7 hown hK.1 hP 0 rfl rfl 0 (by decide) fl10 (fun _ h9 => h9) rfl dX7_whyNoPour_46 ?_
      refine lv_iload_n hx hb dX7_whyNoPour_49 rfl (lv_at hl 3 rfl) ?_
      refine cro_i (va_runV (As := [.int (nI j_to)]) (rest := []) ⟨hx, hb, hml, hown, hts⟩ (c_X6_isMissing l G cI cJ (a := a) (so := so) (sz := sz) (tr := j_to) (ts := by first | assumption | omega) (h1 := by first | assumption | omega)) (cwV 1 hts gX7_whyNoPour_X6_isMissing rfl rfl rfl (by decide +kernel) ⟨Nat.le_of_ble_eq_true rfl, Nat.le_of_ble_eq_true rfl⟩) (preV_ro (wc := [oTr a, aI cI (a 9) 4 (oF so)]) hK hP [1, 2] rfl 6 1 rfl rfl rfl) rfl rfl hl.1 rfl (lv_room (Nat.le_of_ble_eq_true rfl)) dX7_whyNoPour_50 ⟨Nat.zero_le _, Nat.zero_le _⟩) ?_
      refine nb_if_eq (tgt := 58) hx hb dX7_whyNoPour_53 (by decide) (fun c_53 => ?_) (fun c_53 => ?_)
      · refine lv_aload_n hx hb dX7_whyNoPour_58 rfl (lv_at hl 0 rfl) ?_
        refine va_get (D := G) (own := RX7) (ref := "SpotRows") (ci := 7) (v := .ref (a 1)) (C := RX7) (T := TX7) (N := 8) hx hb hts hinX7 hown hK.1 hP 0 rfl rfl 0 (by decide) fl10 (fun _ h9 => h9) rfl dX7_whyNoPour_59 ?_
        refine lv_iload_n hx hb dX7_whyNoPour_62 rfl (lv_at hl 1 rfl) ?_
        refine lv_iload_n hx hb dX7_whyNoPour_63 rfl (lv_at hl 3 rfl) ?_
        refine cro_i (va_runV (As := [.int (nI j_fr), .int (nI j_to)]) (rest := []) ⟨hx, hb, hml, hown, hts⟩ (c_X6_areAlike l G cI cJ (a := a) (so := so) (sz := sz) (x := j_fr) (y := j_to) (ts := by first | assumption | omega) (h1 := by first | assumption | omega) (h2 := by first | assumption | omega)) (cwV 2 hts gX7_whyNoPour_X6_areAlike rfl rfl rfl (by decide +kernel) ⟨Nat.le_of_ble_eq_true rfl, Nat.le_of_ble_eq_true rfl⟩) (preV_ro (wc := [oTr a, aI cI (a 9) 4 (oF so)]) hK hP [1, 2] rfl 6 1 rfl rfl rfl) rfl rfl hl.1 rfl (lv_room (Nat.le_of_ble_eq_true rfl)) dX7_whyNoPour_64 ⟨Nat.zero_le _, Nat.zero_le _⟩) ?_
        refine nb_if_ne (tgt := 73) hx hb dX7_whyNoPour_67 (by decide) (fun c_67 => ?_) (fun c_67 => ?_)
        · refine lv_aload_n hx hb dX7_whyNoPour_73 rfl (lv_at hl 0 rfl) ?_
          refine va_get (D := G) (own := RX7) (ref := "SpotRows") (ci := 7) (v := .ref (a 1)) (C := RX7) (T := TX7) (N := 8) hx hb hts hinX7 hown hK.1 hP 0 rfl rfl 0 (by decide) fl10 (fun _ h9 => h9) rfl dX7_whyNoPour_74 ?_
          refine lv_iload_n hx hb dX7_whyNoPour_77 rfl (lv_at hl 1 rfl) ?_
          refine lv_iload_n hx hb dX7_whyNoPour_78 rfl (lv_at hl 2 rfl) ?_
          refine lv_iload hx hb dX7_whyNoPour_79 (lv_at hl 5 rfl) ?_
          refine cro_i (va_runV (As := [.int (nI j_fr), .int (nI j_pl), .int (nI j_mn)]) (rest := []) ⟨hx, hb, hml, hown, hts⟩ (c_X6_holds l G cI cJ (a := a) (so := so) (sz := sz) (tr := j_fr) (pl := j_pl) (mn := j_mn) (ts := by first | assumption | omega) (h1 := by first | assumption | omega) (h2 := by first | assumption | omega) (h3 := by first | assumption | omega)) (cwV 3 hts gX7_whyNoPour_X6_holds rfl rfl rfl (by decide +kernel) ⟨Nat.le_of_ble_eq_true rfl, Nat.le_of_ble_eq_true rfl⟩) (preV_ro (wc := [oTr a, aI cI (a 10) 4 (nF sz)]) hK hP [1, 3] rfl 6 1 rfl rfl rfl) rfl rfl hl.1 rfl (lv_room (Nat.le_of_ble_eq_true rfl)) dX7_whyNoPour_81 ⟨Nat.zero_le _, Nat.zero_le _⟩) ?_
          refine nb_if_eq (tgt := 106) hx hb dX7_whyNoPour_84 (by decide) (fun c_84 => ?_) (fun c_84 => ?_)
          · refine lv_iconst (v := nI 3) hx hb dX7_whyNoPour_106 (by decide) ?_
            exact W.iret (v := nI 3) hx hb hr (fun zt ht zw => ⟨_, rfl, (congrArg nI (show 3 = (wpo so sz (nI j_fr) (nI j_pl) (nI j_to) (nI j_at_) (nI j_mn)) from by unfold wpo; rw [cif_pos ⟨c_5, c_13, c_19, c_24, Int32.not_lt.mpr c_29⟩, e_fr, e_to, if_neg (fun h => h.elim c_42 c_53), if_neg (not_not_intro c_67), e_pl, e_at_, e_mn]; split <;> first | rfl | (exfalso; omega))), ht⟩) (fun q hq => absurd hq List.not_mem_nil) dX7_whyNoPour_107
          refine lv_aload_n hx hb dX7_whyNoPour_87 rfl (lv_at hl 0 rfl) ?_
          refine va_get (D := G) (own := RX7) (ref := "SpotRows") (ci := 7) (v := .ref (a 1)) (C := RX7) (T := TX7) (N := 8) hx hb hts hinX7 hown hK.1 hP 0 rfl rfl 0 (by decide) fl10 (fun _ h9 => h9) rfl dX7_whyNoPour_88 ?_
          refine lv_iload_n hx hb dX7_whyNoPour_91 rfl (lv_at hl 3 rfl) ?_
          refine lv_iload hx hb dX7_whyNoPour_92 (lv_at hl 4 rfl) ?_
          refine lv_iload hx hb dX7_whyNoPour_94 (lv_at hl 5 rfl) ?_
          refine cro_i (va_runV (As := [.int (nI j_to), .int (nI j_at_), .int (nI j_mn)]) (rest := []) ⟨hx, hb, hml, hown, hts⟩ (c_X6_holds l G cI cJ (a := a) (so := so) (sz := sz) (tr := j_to) (pl := j_at_) (mn := j_mn) (ts := by first | assumption | omega) (h1 := by first | assumption | omega) (h2 := by first | assumption | omega) (h3 := by first | assumption | omega)) (cwV 3 hts gX7_whyNoPour_X6_holds rfl rfl rfl (by decide +kernel) ⟨Nat.le_of_ble_eq_true rfl, Nat.le_of_ble_eq_true rfl⟩) (preV_ro (wc := [oTr a, aI cI (a 10) 4 (nF sz)]) hK hP [1, 3] rfl 6 1 rfl rfl rfl) rfl rfl hl.1 rfl (lv_room (Nat.le_of_ble_eq_true rfl)) dX7_whyNoPour_96 ⟨Nat.zero_le _, Nat.zero_le _⟩) ?_
          refine nb_if_eq (tgt := 106) hx hb dX7_whyNoPour_99 (by decide) (fun c_99 => ?_) (fun c_99 => ?_)
          · refine lv_iconst (v := nI 3) hx hb dX7_whyNoPour_106 (by decide) ?_
            exact W.iret (v := nI 3) hx hb hr (fun zt ht zw => ⟨_, rfl, (congrArg nI (show 3 = (wpo so sz (nI j_fr) (nI j_pl) (nI j_to) (nI j_at_) (nI j_mn)) from by unfold wpo; rw [cif_pos ⟨c_5, c_13, c_19, c_24, Int32.not_lt.mpr c_29⟩, e_fr, e_to, if_neg (fun h => h.elim c_42 c_53), if_neg (not_not_intro c_67), e_pl, e_at_, e_mn]; split <;> first | rfl | (exfalso; omega))), ht⟩) (fun q hq => absurd hq List.not_mem_nil) dX7_whyNoPour_107
          refine lv_iconst (v := nI 0) hx hb dX7_whyNoPour_102 (by decide) ?_
          refine lv_goto (tgt := 107) hx hb dX7_whyNoPour_103 (by decide) ?_
          exact W.iret (v := nI 0) hx hb hr (fun zt ht zw => ⟨_, rfl, (congrArg nI (show 0 = (wpo so sz (nI j_fr) (nI j_pl) (nI j_to) (nI j_at_) (nI j_mn)) from by unfold wpo; rw [cif_pos ⟨c_5, c_13, c_19, c_24, Int32.not_lt.mpr c_29⟩, e_fr, e_to, if_neg (fun h => h.elim c_42 c_53), if_neg (not_not_intro c_67), e_pl, e_at_, e_mn]; split <;> first | rfl | (exfalso; omega))), ht⟩) (fun q hq => absurd hq List.not_mem_nil) dX7_whyNoPour_107
        refine lv_bipush (v := nI 7) hx hb dX7_whyNoPour_70 (by decide) ?_
        exact W.iret (v := nI 7) hx hb hr (fun zt ht zw => ⟨_, rfl, (congrArg nI (show 7 = (wpo so sz (nI j_fr) (nI j_pl) (nI j_to) (nI j_at_) (nI j_mn)) from by unfold wpo; rw [cif_pos ⟨c_5, c_13, c_19, c_24, Int32.not_lt.mpr c_29⟩, e_fr, e_to, if_neg (fun h => h.elim c_42 c_53), if_pos c_67])), ht⟩) (fun q hq => absurd hq List.not_mem_nil) dX7_whyNoPour_72
      refine lv_iconst (v := nI 2) hx hb dX7_whyNoPour_56 (by decide) ?_
      exact W.iret (v := nI 2) hx hb hr (fun zt ht zw => ⟨_, rfl, (congrArg nI (show 2 = (wpo so sz (nI j_fr) (nI j_pl) (nI j_to) (nI j_at_) (nI j_mn)) from by unfold wpo; rw [cif_pos ⟨c_5, c_13, c_19, c_24, Int32.not_lt.mpr c_29⟩, e_fr, e_to, if_pos (by first | exact Or.inl c_42 | exact Or.inr c_53)])), ht⟩) (fun q hq => absurd hq List.not_mem_nil) dX7_whyNoPour_57
    refine lv_iconst (v := nI 1) hx hb dX7_whyNoPour_32 (by decide) ?_
    exact W.iret (v := nI 1) hx hb hr (fun zt ht zw => ⟨_, rfl, (congrArg nI (show 1 = (wpo so sz (nI j_fr) (nI j_pl) (nI j_to) (nI j_at_) mn) from by unfold wpo; rw [cif_neg (by first | exact fun h => h.2.2.1 c_19 | exact fun h => h.2.2.2.1 c_24 | exact fun h => h.2.2.2.2 (Int32.not_le.mp c_29))])), ht⟩) (fun q hq => absurd hq List.not_mem_nil) dX7_whyNoPour_33
  refine lv_iconst (v := nI 1) hx hb dX7_whyNoPour_16 (by decide) ?_
  exact W.iret (v := nI 1) hx hb hr (fun zt ht zw => ⟨_, rfl, (congrArg nI (show 1 = (wpo so sz (nI j_fr) pl to at_ mn) from by unfold wpo; rw [cif_neg (by first | exact fun h => c_5 h.1 | exact fun h => c_13 h.2.1)])), ht⟩) (fun q hq => absurd hq List.not_mem_nil) dX7_whyNoPour_17

set_option maxHeartbeats 400000 in
set_option maxRecDepth 100000 in
theorem c_X7_status (l : Launch) (G : va_G) (cI cJ : ClassId) (a : Nat → Nat) (oc : Int32)  : Met l yX7_status wsX7_status ({ frames := 0, cells := 0, slots := 0, locals := 0 }) (roP G cI cJ [.ref (a 0)] [oX a oc]) (vp_Si (fun r => r = oc)) 0 0 (fun _ => False) := by
  refine Met.ofW (cc := cX7_status) (maxL := 1) (ret := (some .int)) (by decide) rfl ?_
  intro pg ev s mt args below meth cd s₁ B hml hv
  obtain ⟨rfl, hP, hK⟩ := hv
  have hx := B.exec
  have hb := B.bytes
  have hr := B.returns
  have hts := atoms_spec (ws := wsX7_status) B.pre
  have hown : s.vm.findClass RX7 = some mt.cls := findClass_of_methodNamed B.named
  have hlocks := B.notSynchronized
  have hP : va_P G vwCl [oX a oc] s.heap := hP
  have hinX7 := (show ∀ w ∈ u_ws RX7 TX7 8, w ∈ wsX7_status by decide +kernel)
  have fl58 := hts (.fieldLink RX7 58 "SpotRows" "outcome" "I") (by decide +kernel)
  have hl := lv_entry ([.ref (a 0)]) (n := 1) (Nat.le_of_ble_eq_true rfl)
  rw [lg_entry_eq]
  generalize (lg_sl ([.ref (a 0)]) ++ List.replicate (1 - (lg_sl ([.ref (a 0)])).length) Slot.unset).toArray = ls at hl ⊢
  have hl : lv_has ls 1 [(0, .ref (a 0))] := hl
  refine lv_aload_n hx hb dX7_status_0 rfl (lv_at hl 0 rfl) ?_
  refine va_get (D := G) (own := RX7) (ref := "SpotRows") (ci := 7) (v := .int oc) (C := RX7) (T := TX7) (N := 8) hx hb hts hinX7 hown hK.1 hP 0 rfl rfl 7 (by decide) fl58 (fun _ h9 => h9) rfl dX7_status_1 ?_
  exact W.iret (v := oc) hx hb hr (fun zt ht zw => ⟨_, rfl, rfl, ht⟩) (fun q hq => absurd hq List.not_mem_nil) dX7_status_4

set_option maxHeartbeats 400000 in
set_option maxRecDepth 100000 in
theorem c_X7_top (l : Launch) (G : va_G) (cI cJ : ClassId) (a : Nat → Nat) (oc : Int32) (up : Int64) (lo : Int64)  : Met l yX7_top wsX7_top ({ frames := 0, cells := 0, slots := 0, locals := 0 }) (roP G cI cJ [.ref (a 0)] [oX a oc, oFr a up lo]) (vp_Sl (fun r => r = up)) 0 0 (fun _ => False) := by
  refine Met.ofW (cc := cX7_top) (maxL := 1) (ret := (some .long)) (by decide) rfl ?_
  intro pg ev s mt args below meth cd s₁ B hml hv
  obtain ⟨rfl, hP, hK⟩ := hv
  have hx := B.exec
  have hb := B.bytes
  have hr := B.returns
  have hts := atoms_spec (ws := wsX7_top) B.pre
  have hown : s.vm.findClass RX7 = some mt.cls := findClass_of_methodNamed B.named
  have hlocks := B.notSynchronized
  have hP : va_P G vwCl [oX a oc, oFr a up lo] s.heap := hP
  have hinX7 := (show ∀ w ∈ u_ws RX7 TX7 8, w ∈ wsX7_top by decide +kernel)
  have fl54 := hts (.fieldLink RX7 54 "SpotRows" "latest" "LSpotRows$Fraction;") (by decide +kernel)
  have hinX1 := (show ∀ w ∈ u_ws RX1 TX1 2, w ∈ wsX7_top by decide +kernel)
  have fn62 := va_Nw.use (A := ([.ref (a 0)] : List Value).toArray) rfl (hK.2.1 (.fieldLinkNest "SpotRows" 62 "SpotRows$Fraction" "upper" "J" "SpotRows") (by decide +kernel))
  have hl := lv_entry ([.ref (a 0)]) (n := 1) (Nat.le_of_ble_eq_true rfl)
  rw [lg_entry_eq]
  generalize (lg_sl ([.ref (a 0)]) ++ List.replicate (1 - (lg_sl ([.ref (a 0)])).length) Slot.unset).toArray = ls at hl ⊢
  have hl : lv_has ls 1 [(0, .ref (a 0))] := hl
  refine lv_aload_n hx hb dX7_top_0 rfl (lv_at hl 0 rfl) ?_
  refine va_get (D := G) (own := RX7) (ref := "SpotRows") (ci := 7) (v := .ref (a 7)) (C := RX7) (T := TX7) (N := 8) hx hb hts hinX7 hown hK.1 hP 0 rfl rfl 6 (by decide) fl54 (fun _ h9 => h9) rfl dX7_top_1 ?_
  refine va_getN (D := G) (own := RX7) (host := "SpotRows") (ref := "SpotRows$Fraction") (ci := 1) (v := .long up) (C := RX1) (T := TX1) (N := 2) hx hb hts hinX1 hown hK.1 hP 1 rfl rfl 0 (by decide) fn62 (fun _ h9 => h9) rfl dX7_top_4 ?_
  exact W.lret (v := up) hx hb hr (fun zt ht zw => ⟨_, rfl, rfl, ht⟩) (fun q hq => absurd hq List.not_mem_nil) dX7_top_7

set_option maxHeartbeats 400000 in
set_option maxRecDepth 100000 in
theorem c_X7_bottom (l : Launch) (G : va_G) (cI cJ : ClassId) (a : Nat → Nat) (oc : Int32) (up : Int64) (lo : Int64)  : Met l yX7_bottom wsX7_bottom ({ frames := 0, cells := 0, slots := 0, locals := 0 }) (roP G cI cJ [.ref (a 0)] [oX a oc, oFr a up lo]) (vp_Sl (fun r => r = lo)) 0 0 (fun _ => False) := by
  refine Met.ofW (cc := cX7_bottom) (maxL := 1) (ret := (some .long)) (by decide) rfl ?_
  intro pg ev s mt args below meth cd s₁ B hml hv
  obtain ⟨rfl, hP, hK⟩ := hv
  have hx := B.exec
  have hb := B.bytes
  have hr := B.returns
  have hts := atoms_spec (ws := wsX7_bottom) B.pre
  have hown : s.vm.findClass RX7 = some mt.cls := findClass_of_methodNamed B.named
  have hlocks := B.notSynchronized
  have hP : va_P G vwCl [oX a oc, oFr a up lo] s.heap := hP
  have hinX7 := (show ∀ w ∈ u_ws RX7 TX7 8, w ∈ wsX7_bottom by decide +kernel)
  have fl54 := hts (.fieldLink RX7 54 "SpotRows" "latest" "LSpotRows$Fraction;") (by decide +kernel)
  have hinX1 := (show ∀ w ∈ u_ws RX1 TX1 2, w ∈ wsX7_bottom by decide +kernel)
  have fn66 := va_Nw.use (A := ([.ref (a 0)] : List Value).toArray) rfl (hK.2.1 (.fieldLinkNest "SpotRows" 66 "SpotRows$Fraction" "lower" "J" "SpotRows") (by decide +kernel))
  have hl := lv_entry ([.ref (a 0)]) (n := 1) (Nat.le_of_ble_eq_true rfl)
  rw [lg_entry_eq]
  generalize (lg_sl ([.ref (a 0)]) ++ List.replicate (1 - (lg_sl ([.ref (a 0)])).length) Slot.unset).toArray = ls at hl ⊢
  have hl : lv_has ls 1 [(0, .ref (a 0))] := hl
  refine lv_aload_n hx hb dX7_bottom_0 rfl (lv_at hl 0 rfl) ?_
  refine va_get (D := G) (own := RX7) (ref := "SpotRows") (ci := 7) (v := .ref (a 7)) (C := RX7) (T := TX7) (N := 8) hx hb hts hinX7 hown hK.1 hP 0 rfl rfl 6 (by decide) fl54 (fun _ h9 => h9) rfl dX7_bottom_1 ?_
  refine va_getN (D := G) (own := RX7) (host := "SpotRows") (ref := "SpotRows$Fraction") (ci := 1) (v := .long lo) (C := RX1) (T := TX1) (N := 2) hx hb hts hinX1 hown hK.1 hP 1 rfl rfl 1 (by decide) fn66 (fun _ h9 => h9) rfl dX7_bottom_4 ?_
  exact W.lret (v := lo) hx hb hr (fun zt ht zw => ⟨_, rfl, rfl, ht⟩) (fun q hq => absurd hq List.not_mem_nil) dX7_bottom_7

set_option maxHeartbeats 400000 in
set_option maxRecDepth 100000 in
theorem c_X7_tray (l : Launch) (G : va_G) (cI cJ : ClassId) (a : Nat → Nat) (oc : Int32) (so : Nat → Nat) (sz : Nat → Nat) (z : Nat → Int64) (tr : Int32) (k : Int32) (mn : Int32)  : Met l yX7_tray wsX7_tray ({ frames := 4, cells := 0, slots := 0, locals := 130 }) (rwP G cI cJ [.ref (a 0), .int tr, .int k, .int mn] [oX a oc, oTr a, aI cI (a 9) 4 (oF so), aI cI (a 10) 4 (nF sz), aJ cJ (a 8) 240 z]) (rwQi G [oX a oc, oTr a, aI cI (a 9) 4 (oF so), aI cI (a 10) 4 (nF sz), aJ cJ (a 8) 240 z] (fun (r : Int32) (_ : Unit) => r = bi (qTray tr k mn = 0)) (fun (_ : Unit) => [oX a (nI (qTray tr k mn)), oTr a, aI cI (a 9) 4 (oF (soTray so tr k mn)), aI cI (a 10) 4 (nF (szTray sz tr k mn)), aJ cJ (a 8) 240 (zTray z tr k mn)])) 0 0 (ads [oX a oc, oTr a, aI cI (a 9) 4 (oF so), aI cI (a 10) 4 (nF sz), aJ cJ (a 8) 240 z]) := by
  refine Met.ofW (cc := cX7_tray) (maxL := 4) (ret := (some .boolean)) (by decide) rfl ?_
  intro pg ev s mt args below meth cd s₁ B hml hv
  obtain ⟨rfl, hP, hD0, hK⟩ := hv
  have hx := B.exec
  have hb := B.bytes
  have hr := B.returns
  have hts := atoms_spec (ws := wsX7_tray) B.pre
  have hown : s.vm.findClass RX7 = some mt.cls := findClass_of_methodNamed B.named
  have hlocks := B.notSynchronized
  have hD := ads_self hD0
  generalize hAe : ads [oX a oc, oTr a, aI cI (a 9) 4 (oF so), aI cI (a 10) 4 (nF sz), aJ cJ (a 8) 240 z] = A at hD ⊢
  have hS : va_S A s.heap s.heap [] := va_S.rf
  have hP : va_P G vwCl [oX a oc, oTr a, aI cI (a 9) 4 (oF so), aI cI (a 10) 4 (nF sz), aJ cJ (a 8) 240 z] s.heap := hP
  have hinX7 := (show ∀ w ∈ u_ws RX7 TX7 8, w ∈ wsX7_tray by decide +kernel)
  have fl10 := hts (.fieldLink RX7 10 "SpotRows" "trays" "LSpotRows$Trays;") (by decide +kernel)
  have hl := lv_entry ([.ref (a 0), .int tr, .int k, .int mn]) (n := 4) (Nat.le_of_ble_eq_true rfl)
  rw [lg_entry_eq]
  generalize (lg_sl ([.ref (a 0), .int tr, .int k, .int mn]) ++ List.replicate (4 - (lg_sl ([.ref (a 0), .int tr, .int k, .int mn])).length) Slot.unset).toArray = ls at hl ⊢
  have hl : lv_has ls 4 [(0, .ref (a 0)), (1, .int tr), (2, .int k), (3, .int mn)] := hl
  refine lv_iload_n hx hb dX7_tray_0 rfl (lv_at hl 1 rfl) ?_
  refine lv_iconst (v := nI 3) hx hb dX7_tray_1 (by decide) ?_
  refine cro_i (va_runS (As := [.int tr, .int (nI 3)]) (rest := []) ⟨hx, hb, hml, hown, hts⟩ (c_X7_isWithin l G cI cJ (x := tr) (k := 3) (hk := by first | assumption | omega)) (va_cwS 2 hts gX7_tray_X7_isWithin rfl rfl rfl (by decide +kernel) ⟨Nat.le_of_ble_eq_true rfl, Nat.le_of_ble_eq_true rfl⟩) (preS_ro (wc := []) hK hP [] rfl) rfl rfl hl.1 rfl (lv_room (Nat.le_of_ble_eq_true rfl)) dX7_tray_2 ⟨Nat.zero_le _, Nat.zero_le _⟩) ?_
  refine nb_if_eq (tgt := 24) hx hb dX7_tray_5 (by decide) (fun c_5 => ?_) (fun c_5 => ?_)
  · refine lv_aload_n hx hb dX7_tray_24 rfl (lv_at hl 0 rfl) ?_
    refine lv_iconst (v := nI 1) hx hb dX7_tray_25 (by decide) ?_
    refine crw_i (va_runV (As := [.int (nI 1)]) (rest := []) ⟨hx, hb, hml, hown, hts⟩ (c_X7_refuse l G cI cJ (a := a) (oc := oc) (w := nI 1) ) (cwV 1 hts gX7_tray_X7_refuse rfl rfl rfl (by decide +kernel) ⟨Nat.le_of_ble_eq_true rfl, Nat.le_of_ble_eq_true rfl⟩) (preV_rw (wc := [oX a oc]) hK hP hD [0] rfl rfl 7 0 rfl rfl rfl) rfl rfl hl.1 rfl (lv_room (Nat.le_of_ble_eq_true rfl)) dX7_tray_26 ⟨Nat.zero_le _, Nat.zero_le _⟩) hP hD hS [0] rfl [a 0] (fun u => rfl) rfl (fun r_26 u_ H locs hw_26 hP hD hS => ?_)
    have hP : va_P G vwCl [oX a (nI 1), oTr a, aI cI (a 9) 4 (oF so), aI cI (a 10) 4 (nF sz), aJ cJ (a 8) 240 z] H := hP
    have hD : va_D A [oX a (nI 1), oTr a, aI cI (a 9) 4 (oF so), aI cI (a 10) 4 (nF sz), aJ cJ (a 8) 240 z] := hD
    refine toi hw_26 ?_
    have hP : va_P G vwCl [oX a (nI (qTray tr k mn)), oTr a, aI cI (a 9) 4 (oF (soTray so tr k mn)), aI cI (a 10) 4 (nF (szTray sz tr k mn)), aJ cJ (a 8) 240 (zTray z tr k mn)] H := by
      have ew : ([oX a (nI 1), oTr a, aI cI (a 9) 4 (oF so), aI cI (a 10) 4 (nF sz), aJ cJ (a 8) 240 z] : va_W) = [oX a (nI (qTray tr k mn)), oTr a, aI cI (a 9) 4 (oF (soTray so tr k mn)), aI cI (a 10) 4 (nF (szTray sz tr k mn)), aJ cJ (a 8) 240 (zTray z tr k mn)] := (wvC (congrArg (fun zz => oX a zz) (show nI 1 = nI (qTray tr k mn) from (congrArg nI (show 1 = (qTray tr k mn) from by first | rfl | (simp only [qTray, soTray, szTray, zTray, okTray, cif_T, cif_F, ctold, c_5]; done) | (simp [qTray, soTray, szTray, zTray, okTray, cif_T, cif_F, ctold, c_5]; done) | omega | (simp [qTray, soTray, szTray, zTray, okTray, cif_T, cif_F, ctold, c_5]; omega))))) (wvC rfl (wvC (congrArg (fun z => aI cI (a 9) 4 (oF z)) (show so = soTray so tr k mn from by first | rfl | (simp only [qTray, soTray, szTray, zTray, okTray, cif_T, cif_F, ctold, c_5]; done) | (simp [qTray, soTray, szTray, zTray, okTray, cif_T, cif_F, ctold, c_5]; done) | omega | (simp [qTray, soTray, szTray, zTray, okTray, cif_T, cif_F, ctold, c_5]; omega))) (wvC (congrArg (fun z => aI cI (a 10) 4 (nF z)) (show sz = szTray sz tr k mn from by first | rfl | (simp only [qTray, soTray, szTray, zTray, okTray, cif_T, cif_F, ctold, c_5]; done) | (simp [qTray, soTray, szTray, zTray, okTray, cif_T, cif_F, ctold, c_5]; done) | omega | (simp [qTray, soTray, szTray, zTray, okTray, cif_T, cif_F, ctold, c_5]; omega))) (wvC (congrArg (fun z => aJ cJ (a 8) 240 z) (show z = (zTray z tr k mn) from by first | rfl | (simp only [qTray, soTray, szTray, zTray, okTray, cif_T, cif_F, ctold, c_5]; done) | (simp [qTray, soTray, szTray, zTray, okTray, cif_T, cif_F, ctold, c_5]; done) | omega | (simp [qTray, soTray, szTray, zTray, okTray, cif_T, cif_F, ctold, c_5]; omega))) rfl)))))
      rw [← ew]; exact hP
    exact W.zret (v := nI 0) hx hb hr rfl (fun zt ht zw => ⟨⟨_, (), rfl, (show nI 0 = bi (qTray tr k mn = 0) from (bi_f (by first | rfl | (simp only [qTray, soTray, szTray, zTray, okTray, cif_T, cif_F, ctold, c_5]; done) | (simp [qTray, soTray, szTray, zTray, okTray, cif_T, cif_F, ctold, c_5]; done) | omega | (simp [qTray, soTray, szTray, zTray, okTray, cif_T, cif_F, ctold, c_5]; omega))).symm), by show va_P _ _ _ zt.heap; rw [ht]; exact hP⟩, by rw [hAe]; exact hS.F ht⟩) hS.2.2 dX7_tray_29
  obtain ⟨j_tr, h_tr, rfl⟩ := rg_ex c_5
  have e_tr := nn_nI (j := j_tr) (by omega)
  refine lv_iload_n hx hb dX7_tray_8 rfl (lv_at hl 2 rfl) ?_
  refine cro_i (va_runS (As := [.int k]) (rest := []) ⟨hx, hb, hml, hown, hts⟩ (c_X6_isSort l G cI cJ (x := k) ) (va_cwS 1 hts gX7_tray_X6_isSort rfl rfl rfl (by decide +kernel) ⟨Nat.le_of_ble_eq_true rfl, Nat.le_of_ble_eq_true rfl⟩) (preS_ro (wc := []) hK hP [] rfl) rfl rfl hl.1 rfl (lv_room (Nat.le_of_ble_eq_true rfl)) dX7_tray_9 ⟨Nat.zero_le _, Nat.zero_le _⟩) ?_
  refine nb_if_eq (tgt := 24) hx hb dX7_tray_12 (by decide) (fun c_12 => ?_) (fun c_12 => ?_)
  · refine lv_aload_n hx hb dX7_tray_24 rfl (lv_at hl 0 rfl) ?_
    refine lv_iconst (v := nI 1) hx hb dX7_tray_25 (by decide) ?_
    refine crw_i (va_runV (As := [.int (nI 1)]) (rest := []) ⟨hx, hb, hml, hown, hts⟩ (c_X7_refuse l G cI cJ (a := a) (oc := oc) (w := nI 1) ) (cwV 1 hts gX7_tray_X7_refuse rfl rfl rfl (by decide +kernel) ⟨Nat.le_of_ble_eq_true rfl, Nat.le_of_ble_eq_true rfl⟩) (preV_rw (wc := [oX a oc]) hK hP hD [0] rfl rfl 7 0 rfl rfl rfl) rfl rfl hl.1 rfl (lv_room (Nat.le_of_ble_eq_true rfl)) dX7_tray_26 ⟨Nat.zero_le _, Nat.zero_le _⟩) hP hD hS [0] rfl [a 0] (fun u => rfl) rfl (fun r_26 u_ H locs hw_26 hP hD hS => ?_)
    have hP : va_P G vwCl [oX a (nI 1), oTr a, aI cI (a 9) 4 (oF so), aI cI (a 10) 4 (nF sz), aJ cJ (a 8) 240 z] H := hP
    have hD : va_D A [oX a (nI 1), oTr a, aI cI (a 9) 4 (oF so), aI cI (a 10) 4 (nF sz), aJ cJ (a 8) 240 z] := hD
    refine toi hw_26 ?_
    have hP : va_P G vwCl [oX a (nI (qTray (nI j_tr) k mn)), oTr a, aI cI (a 9) 4 (oF (soTray so (nI j_tr) k mn)), aI cI (a 10) 4 (nF (szTray sz (nI j_tr) k mn)), aJ cJ (a 8) 240 (zTray z (nI j_tr) k mn)] H := by
      have ew : ([oX a (nI 1), oTr a, aI cI (a 9) 4 (oF so), aI cI (a 10) 4 (nF sz), aJ cJ (a 8) 240 z] : va_W) = [oX a (nI (qTray (nI j_tr) k mn)), oTr a, aI cI (a 9) 4 (oF (soTray so (nI j_tr) k mn)), aI cI (a 10) 4 (nF (szTray sz (nI j_tr) k mn)), aJ cJ (a 8) 240 (zTray z (nI j_tr) k mn)] := (wvC (congrArg (fun zz => oX a zz) (show nI 1 = nI (qTray (nI j_tr) k mn) from (congrArg nI (show 1 = (qTray (nI j_tr) k mn) from by first | rfl | (simp only [qTray, soTray, szTray, zTray, okTray, cif_T, cif_F, ctold, c_5, e_tr, c_12]; done) | (simp [qTray, soTray, szTray, zTray, okTray, cif_T, cif_F, ctold, c_5, e_tr, c_12]; done) | omega | (simp [qTray, soTray, szTray, zTray, okTray, cif_T, cif_F, ctold, c_5, e_tr, c_12]; omega))))) (wvC rfl (wvC (congrArg (fun z => aI cI (a 9) 4 (oF z)) (show so = soTray so (nI j_tr) k mn from by first | rfl | (simp only [qTray, soTray, szTray, zTray, okTray, cif_T, cif_F, ctold, c_5, e_tr, c_12]; done) | (simp [qTray, soTray, szTray, zTray, okTray, cif_T, cif_F, ctold, c_5, e_tr, c_12]; done) | omega | (simp [qTray, soTray, szTray, zTray, okTray, cif_T, cif_F, ctold, c_5, e_tr, c_12]; omega))) (wvC (congrArg (fun z => aI cI (a 10) 4 (nF z)) (show sz = szTray sz (nI j_tr) k mn from by first | rfl | (simp only [qTray, soTray, szTray, zTray, okTray, cif_T, cif_F, ctold, c_5, e_tr, c_12]; done) | (simp [qTray, soTray, szTray, zTray, okTray, cif_T, cif_F, ctold, c_5, e_tr, c_12]; done) | omega | (simp [qTray, soTray, szTray, zTray, okTray, cif_T, cif_F, ctold, c_5, e_tr, c_12]; omega))) (wvC (congrArg (fun z => aJ cJ (a 8) 240 z) (show z = (zTray z (nI j_tr) k mn) from by first | rfl | (simp only [qTray, soTray, szTray, zTray, okTray, cif_T, cif_F, ctold, c_5, e_tr, c_12]; done) | (simp [qTray, soTray, szTray, zTray, okTray, cif_T, cif_F, ctold, c_5, e_tr, c_12]; done) | omega | (simp [qTray, soTray, szTray, zTray, okTray, cif_T, cif_F, ctold, c_5, e_tr, c_12]; omega))) rfl)))))
      rw [← ew]; exact hP
    exact W.zret (v := nI 0) hx hb hr rfl (fun zt ht zw => ⟨⟨_, (), rfl, (show nI 0 = bi (qTray (nI j_tr) k mn = 0) from (bi_f (by first | rfl | (simp only [qTray, soTray, szTray, zTray, okTray, cif_T, cif_F, ctold, c_5, e_tr, c_12]; done) | (simp [qTray, soTray, szTray, zTray, okTray, cif_T, cif_F, ctold, c_5, e_tr, c_12]; done) | omega | (simp [qTray, soTray, szTray, zTray, okTray, cif_T, cif_F, ctold, c_5, e_tr, c_12]; omega))).symm), by show va_P _ _ _ zt.heap; rw [ht]; exact hP⟩, by rw [hAe]; exact hS.F ht⟩) hS.2.2 dX7_tray_29
  obtain ⟨j_k, h_k, rfl⟩ := rg_ex c_12
  have e_k := nn_nI (j := j_k) (by omega)
  refine lv_iload_n hx hb dX7_tray_15 rfl (lv_at hl 3 rfl) ?_
  refine lv_bipush (v := nI 60) hx hb dX7_tray_16 (by decide) ?_
  refine cro_i (va_runS (As := [.int mn, .int (nI 60)]) (rest := []) ⟨hx, hb, hml, hown, hts⟩ (c_X7_isWithin l G cI cJ (x := mn) (k := 60) (hk := by first | assumption | omega)) (va_cwS 2 hts gX7_tray_X7_isWithin rfl rfl rfl (by decide +kernel) ⟨Nat.le_of_ble_eq_true rfl, Nat.le_of_ble_eq_true rfl⟩) (preS_ro (wc := []) hK hP [] rfl) rfl rfl hl.1 rfl (lv_room (Nat.le_of_ble_eq_true rfl)) dX7_tray_18 ⟨Nat.zero_le _, Nat.zero_le _⟩) ?_
  refine nb_if_ne (tgt := 30) hx hb dX7_tray_21 (by decide) (fun c_21 => ?_) (fun c_21 => ?_)
  · obtain ⟨j_mn, h_mn, rfl⟩ := rg_ex c_21
    have e_mn := nn_nI (j := j_mn) (by omega)
    refine lv_aload_n hx hb dX7_tray_30 rfl (lv_at hl 0 rfl) ?_
    refine va_get (D := G) (own := RX7) (ref := "SpotRows") (ci := 7) (v := .ref (a 1)) (C := RX7) (T := TX7) (N := 8) hx hb hts hinX7 hown hK.1 hP 0 rfl rfl 0 (by decide) fl10 (fun _ h9 => h9) rfl dX7_tray_31 ?_
    refine lv_iload_n hx hb dX7_tray_34 rfl (lv_at hl 1 rfl) ?_
    refine lv_iload_n hx hb dX7_tray_35 rfl (lv_at hl 2 rfl) ?_
    refine lv_iload_n hx hb dX7_tray_36 rfl (lv_at hl 3 rfl) ?_
    refine crw_v (free := fun _ => True) (va_runV (As := [.int (nI j_tr), .int (nI j_k), .int (nI j_mn)]) (rest := []) ⟨hx, hb, hml, hown, hts⟩ (c_X6_lay l G cI cJ (a := a) (so := so) (sz := sz) (z := z) (tr := j_tr) (k := j_k) (mn := j_mn) (h1 := by first | assumption | omega)) (cwV 3 hts gX7_tray_X6_lay rfl rfl rfl (by decide +kernel) ⟨Nat.le_of_ble_eq_true rfl, Nat.le_of_ble_eq_true rfl⟩) (preV_rw (wc := [oTr a, aI cI (a 9) 4 (oF so), aI cI (a 10) 4 (nF sz), aJ cJ (a 8) 240 z]) hK hP hD [1, 2, 3, 4] rfl rfl 6 1 rfl rfl rfl) rfl rfl hl.1 rfl (lv_room (Nat.le_of_ble_eq_true rfl)) dX7_tray_37 ⟨Nat.zero_le _, Nat.zero_le _⟩) hP hD hS [1, 2, 3, 4] rfl [a 1, a 9, a 10, a 8] (fun u => rfl) rfl (fun u_ H locs hw_37 hP hD hS => ?_)
    have hP : va_P G vwCl [oX a oc, oTr a, aI cI (a 9) 4 (oF (upN so j_tr (j_k + 1))), aI cI (a 10) 4 (nF (upN sz j_tr j_mn)), aJ cJ (a 8) 240 (fil z (lN 0) (j_tr * 60) ((j_tr + 1) * 60))] H := hP
    have hD : va_D A [oX a oc, oTr a, aI cI (a 9) 4 (oF (upN so j_tr (j_k + 1))), aI cI (a 10) 4 (nF (upN sz j_tr j_mn)), aJ cJ (a 8) 240 (fil z (lN 0) (j_tr * 60) ((j_tr + 1) * 60))] := hD
    refine lv_aload_n hx hb dX7_tray_40 rfl (lv_at hl 0 rfl) ?_
    refine crw_i (va_runV (As := []) (rest := []) ⟨hx, hb, hml, hown, hts⟩ (c_X7_agree l G cI cJ (a := a) (oc := oc) ) (cwV 0 hts gX7_tray_X7_agree rfl rfl rfl (by decide +kernel) ⟨Nat.le_of_ble_eq_true rfl, Nat.le_of_ble_eq_true rfl⟩) (preV_rw (wc := [oX a oc]) hK hP hD [0] rfl rfl 7 0 rfl rfl rfl) rfl rfl hl.1 rfl (lv_room (Nat.le_of_ble_eq_true rfl)) dX7_tray_41 ⟨Nat.zero_le _, Nat.zero_le _⟩) hP hD hS [0] rfl [a 0] (fun u => rfl) rfl (fun r_41 u_ H locs hw_41 hP hD hS => ?_)
    have hP : va_P G vwCl [oX a (nI 0), oTr a, aI cI (a 9) 4 (oF (upN so j_tr (j_k + 1))), aI cI (a 10) 4 (nF (upN sz j_tr j_mn)), aJ cJ (a 8) 240 (fil z (lN 0) (j_tr * 60) ((j_tr + 1) * 60))] H := hP
    have hD : va_D A [oX a (nI 0), oTr a, aI cI (a 9) 4 (oF (upN so j_tr (j_k + 1))), aI cI (a 10) 4 (nF (upN sz j_tr j_mn)), aJ cJ (a 8) 240 (fil z (lN 0) (j_tr * 60) ((j_tr + 1) * 60))] := hD
    refine toi hw_41 ?_
    have hP : va_P G vwCl [oX a (nI (qTray (nI j_tr) (nI j_k) (nI j_mn))), oTr a, aI cI (a 9) 4 (oF (soTray so (nI j_tr) (nI j_k) (nI j_mn))), aI cI (a 10) 4 (nF (szTray sz (nI j_tr) (nI j_k) (nI j_mn))), aJ cJ (a 8) 240 (zTray z (nI j_tr) (nI j_k) (nI j_mn))] H := by
      have ew : ([oX a (nI 0), oTr a, aI cI (a 9) 4 (oF (upN so j_tr (j_k + 1))), aI cI (a 10) 4 (nF (upN sz j_tr j_mn)), aJ cJ (a 8) 240 (fil z (lN 0) (j_tr * 60) ((j_tr + 1) * 60))] : va_W) = [oX a (nI (qTray (nI j_tr) (nI j_k) (nI j_mn))), oTr a, aI cI (a 9) 4 (oF (soTray so (nI j_tr) (nI j_k) (nI j_mn))), aI cI (a 10) 4 (nF (szTray sz (nI j_tr) (nI j_k) (nI j_mn))), aJ cJ (a 8) 240 (zTray z (nI j_tr) (nI j_k) (nI j_mn))] := (wvC (congrArg (fun zz => oX a zz) (show nI 0 = nI (qTray (nI j_tr) (nI j_k) (nI j_mn)) from (congrArg nI (show 0 = (qTray (nI j_tr) (nI j_k) (nI j_mn)) from by first | rfl | (simp only [qTray, soTray, szTray, zTray, okTray, cif_T, cif_F, ctold, c_5, e_tr, c_12, e_k, c_21, e_mn]; done) | (simp [qTray, soTray, szTray, zTray, okTray, cif_T, cif_F, ctold, c_5, e_tr, c_12, e_k, c_21, e_mn]; done) | omega | (simp [qTray, soTray, szTray, zTray, okTray, cif_T, cif_F, ctold, c_5, e_tr, c_12, e_k, c_21, e_mn]; omega))))) (wvC rfl (wvC (congrArg (fun z => aI cI (a 9) 4 (oF z)) (show upN so j_tr (j_k + 1) = soTray so (nI j_tr) (nI j_k) (nI j_mn) from by first | rfl | (simp only [qTray, soTray, szTray, zTray, okTray, cif_T, cif_F, ctold, c_5, e_tr, c_12, e_k, c_21, e_mn]; done) | (simp [qTray, soTray, szTray, zTray, okTray, cif_T, cif_F, ctold, c_5, e_tr, c_12, e_k, c_21, e_mn]; done) | omega | (simp [qTray, soTray, szTray, zTray, okTray, cif_T, cif_F, ctold, c_5, e_tr, c_12, e_k, c_21, e_mn]; omega))) (wvC (congrArg (fun z => aI cI (a 10) 4 (nF z)) (show upN sz j_tr j_mn = szTray sz (nI j_tr) (nI j_k) (nI j_mn) from by first | rfl | (simp only [qTray, soTray, szTray, zTray, okTray, cif_T, cif_F, ctold, c_5, e_tr, c_12, e_k, c_21, e_mn]; done) | (simp [qTray, soTray, szTray, zTray, okTray, cif_T, cif_F, ctold, c_5, e_tr, c_12, e_k, c_21, e_mn]; done) | omega | (simp [qTray, soTray, szTray, zTray, okTray, cif_T, cif_F, ctold, c_5, e_tr, c_12, e_k, c_21, e_mn]; omega))) (wvC (congrArg (fun z => aJ cJ (a 8) 240 z) (show (fil z (lN 0) (j_tr * 60) ((j_tr + 1) * 60)) = (zTray z (nI j_tr) (nI j_k) (nI j_mn)) from by first | rfl | (simp only [qTray, soTray, szTray, zTray, okTray, cif_T, cif_F, ctold, c_5, e_tr, c_12, e_k, c_21, e_mn]; done) | (simp [qTray, soTray, szTray, zTray, okTray, cif_T, cif_F, ctold, c_5, e_tr, c_12, e_k, c_21, e_mn]; done) | omega | (simp [qTray, soTray, szTray, zTray, okTray, cif_T, cif_F, ctold, c_5, e_tr, c_12, e_k, c_21, e_mn]; omega))) rfl)))))
      rw [← ew]; exact hP
    exact W.zret (v := nI 1) hx hb hr rfl (fun zt ht zw => ⟨⟨_, (), rfl, (show nI 1 = bi (qTray (nI j_tr) (nI j_k) (nI j_mn) = 0) from (bi_t (by first | rfl | (simp only [qTray, soTray, szTray, zTray, okTray, cif_T, cif_F, ctold, c_5, e_tr, c_12, e_k, c_21, e_mn]; done) | (simp [qTray, soTray, szTray, zTray, okTray, cif_T, cif_F, ctold, c_5, e_tr, c_12, e_k, c_21, e_mn]; done) | omega | (simp [qTray, soTray, szTray, zTray, okTray, cif_T, cif_F, ctold, c_5, e_tr, c_12, e_k, c_21, e_mn]; omega))).symm), by show va_P _ _ _ zt.heap; rw [ht]; exact hP⟩, by rw [hAe]; exact hS.F ht⟩) hS.2.2 dX7_tray_44
  refine lv_aload_n hx hb dX7_tray_24 rfl (lv_at hl 0 rfl) ?_
  refine lv_iconst (v := nI 1) hx hb dX7_tray_25 (by decide) ?_
  refine crw_i (va_runV (As := [.int (nI 1)]) (rest := []) ⟨hx, hb, hml, hown, hts⟩ (c_X7_refuse l G cI cJ (a := a) (oc := oc) (w := nI 1) ) (cwV 1 hts gX7_tray_X7_refuse rfl rfl rfl (by decide +kernel) ⟨Nat.le_of_ble_eq_true rfl, Nat.le_of_ble_eq_true rfl⟩) (preV_rw (wc := [oX a oc]) hK hP hD [0] rfl rfl 7 0 rfl rfl rfl) rfl rfl hl.1 rfl (lv_room (Nat.le_of_ble_eq_true rfl)) dX7_tray_26 ⟨Nat.zero_le _, Nat.zero_le _⟩) hP hD hS [0] rfl [a 0] (fun u => rfl) rfl (fun r_26 u_ H locs hw_26 hP hD hS => ?_)
  have hP : va_P G vwCl [oX a (nI 1), oTr a, aI cI (a 9) 4 (oF so), aI cI (a 10) 4 (nF sz), aJ cJ (a 8) 240 z] H := hP
  have hD : va_D A [oX a (nI 1), oTr a, aI cI (a 9) 4 (oF so), aI cI (a 10) 4 (nF sz), aJ cJ (a 8) 240 z] := hD
  refine toi hw_26 ?_
  have hP : va_P G vwCl [oX a (nI (qTray (nI j_tr) (nI j_k) mn)), oTr a, aI cI (a 9) 4 (oF (soTray so (nI j_tr) (nI j_k) mn)), aI cI (a 10) 4 (nF (szTray sz (nI j_tr) (nI j_k) mn)), aJ cJ (a 8) 240 (zTray z (nI j_tr) (nI j_k) mn)] H := by
    have ew : ([oX a (nI 1), oTr a, aI cI (a 9) 4 (oF so), aI cI (a 10) 4 (nF sz), aJ cJ (a 8) 240 z] : va_W) = [oX a (nI (qTray (nI j_tr) (nI j_k) mn)), oTr a, aI cI (a 9) 4 (oF (soTray so (nI j_tr) (nI j_k) mn)), aI cI (a 10) 4 (nF (szTray sz (nI j_tr) (nI j_k) mn)), aJ cJ (a 8) 240 (zTray z (nI j_tr) (nI j_k) mn)] := (wvC (congrArg (fun zz => oX a zz) (show nI 1 = nI (qTray (nI j_tr) (nI j_k) mn) from (congrArg nI (show 1 = (qTray (nI j_tr) (nI j_k) mn) from by first | rfl | (simp only [qTray, soTray, szTray, zTray, okTray, cif_T, cif_F, ctold, c_5, e_tr, c_12, e_k, c_21]; done) | (simp [qTray, soTray, szTray, zTray, okTray, cif_T, cif_F, ctold, c_5, e_tr, c_12, e_k, c_21]; done) | omega | (simp [qTray, soTray, szTray, zTray, okTray, cif_T, cif_F, ctold, c_5, e_tr, c_12, e_k, c_21]; omega))))) (wvC rfl (wvC (congrArg (fun z => aI cI (a 9) 4 (oF z)) (show so = soTray so (nI j_tr) (nI j_k) mn from by first | rfl | (simp only [qTray, soTray, szTray, zTray, okTray, cif_T, cif_F, ctold, c_5, e_tr, c_12, e_k, c_21]; done) | (simp [qTray, soTray, szTray, zTray, okTray, cif_T, cif_F, ctold, c_5, e_tr, c_12, e_k, c_21]; done) | omega | (simp [qTray, soTray, szTray, zTray, okTray, cif_T, cif_F, ctold, c_5, e_tr, c_12, e_k, c_21]; omega))) (wvC (congrArg (fun z => aI cI (a 10) 4 (nF z)) (show sz = szTray sz (nI j_tr) (nI j_k) mn from by first | rfl | (simp only [qTray, soTray, szTray, zTray, okTray, cif_T, cif_F, ctold, c_5, e_tr, c_12, e_k, c_21]; done) | (simp [qTray, soTray, szTray, zTray, okTray, cif_T, cif_F, ctold, c_5, e_tr, c_12, e_k, c_21]; done) | omega | (simp [qTray, soTray, szTray, zTray, okTray, cif_T, cif_F, ctold, c_5, e_tr, c_12, e_k, c_21]; omega))) (wvC (congrArg (fun z => aJ cJ (a 8) 240 z) (show z = (zTray z (nI j_tr) (nI j_k) mn) from by first | rfl | (simp only [qTray, soTray, szTray, zTray, okTray, cif_T, cif_F, ctold, c_5, e_tr, c_12, e_k, c_21]; done) | (simp [qTray, soTray, szTray, zTray, okTray, cif_T, cif_F, ctold, c_5, e_tr, c_12, e_k, c_21]; done) | omega | (simp [qTray, soTray, szTray, zTray, okTray, cif_T, cif_F, ctold, c_5, e_tr, c_12, e_k, c_21]; omega))) rfl)))))
    rw [← ew]; exact hP
  exact W.zret (v := nI 0) hx hb hr rfl (fun zt ht zw => ⟨⟨_, (), rfl, (show nI 0 = bi (qTray (nI j_tr) (nI j_k) mn = 0) from (bi_f (by first | rfl | (simp only [qTray, soTray, szTray, zTray, okTray, cif_T, cif_F, ctold, c_5, e_tr, c_12, e_k, c_21]; done) | (simp [qTray, soTray, szTray, zTray, okTray, cif_T, cif_F, ctold, c_5, e_tr, c_12, e_k, c_21]; done) | omega | (simp [qTray, soTray, szTray, zTray, okTray, cif_T, cif_F, ctold, c_5, e_tr, c_12, e_k, c_21]; omega))).symm), by show va_P _ _ _ zt.heap; rw [ht]; exact hP⟩, by rw [hAe]; exact hS.F ht⟩) hS.2.2 dX7_tray_29
