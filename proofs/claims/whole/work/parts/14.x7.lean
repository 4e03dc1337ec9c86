set_option maxHeartbeats 400000 in
set_option maxRecDepth 100000 in
theorem c_X7_write (l : Launch) (G : va_G) (cI cJ : ClassId) (a : Nat → Nat) (oc : Int32) (so : Nat → Nat) (sz : Nat → Nat) (z : Nat → Int64) (tr : Int32) (pl : Int32) (v : Int64) (ts : TS so sz) : Met l yX7_write wsX7_write ({ frames := 2, cells := 0, slots := 0, locals := 46 }) (rwP G cI cJ [.ref (a 0), .int tr, .int pl, .long v] [oX a oc, oTr a, aI cI (a 9) 4 (oF so), aI cI (a 10) 4 (nF sz), aJ cJ (a 8) 240 z]) (rwQi G [oX a oc, oTr a, aI cI (a 9) 4 (oF so), aI cI (a 10) 4 (nF sz), aJ cJ (a 8) 240 z] (fun (r : Int32) (_ : Unit) => r = bi (wnp so sz tr pl = 0)) (fun (_ : Unit) => [oX a (nI (wnp so sz tr pl)), oTr a, aI cI (a 9) 4 (oF so), aI cI (a 10) 4 (nF sz), aJ cJ (a 8) 240 (zWrite so sz z tr pl v)])) 0 0 (ads [oX a oc, oTr a, aI cI (a 9) 4 (oF so), aI cI (a 10) 4 (nF sz), aJ cJ (a 8) 240 z]) := by
  refine Met.ofW (cc := cX7_write) (maxL := 6) (ret := (some .boolean)) (by decide) rfl ?_
  intro pg ev s mt args below meth cd s₁ B hml hv
  obtain ⟨rfl, hP, hD0, hK⟩ := hv
  have hx := B.exec
  have hb := B.bytes
  have hr := B.returns
  have hts := atoms_spec (ws := wsX7_write) B.pre
  have hown : s.vm.findClass RX7 = some mt.cls := findClass_of_methodNamed B.named
  have hlocks := B.notSynchronized
  have hD := ads_self hD0
  generalize hAe : ads [oX a oc, oTr a, aI cI (a 9) 4 (oF so), aI cI (a 10) 4 (nF sz), aJ cJ (a 8) 240 z] = A at hD ⊢
  have hS : va_S A s.heap s.heap [] := va_S.rf
  have hP : va_P G vwCl [oX a oc, oTr a, aI cI (a 9) 4 (oF so), aI cI (a 10) 4 (nF sz), aJ cJ (a 8) 240 z] s.heap := hP
  have hinX7 := (show ∀ w ∈ u_ws RX7 TX7 8, w ∈ wsX7_write by decide +kernel)
  have fl10 := hts (.fieldLink RX7 10 "SpotRows" "trays" "LSpotRows$Trays;") (by decide +kernel)
  have hl := lv_entry ([.ref (a 0), .int tr, .int pl, .long v]) (n := 6) (Nat.le_of_ble_eq_true rfl)
  rw [lg_entry_eq]
  generalize (lg_sl ([.ref (a 0), .int tr, .int pl, .long v]) ++ List.replicate (6 - (lg_sl ([.ref (a 0), .int tr, .int pl, .long v])).length) Slot.unset).toArray = ls at hl ⊢
  have hl : lv_has ls 6 [(0, .ref (a 0)), (1, .int tr), (2, .int pl), (3, .long v)] := hl
  refine lv_aload_n hx hb dX7_write_0 rfl (lv_at hl 0 rfl) ?_
  refine va_get (D := G) (own := RX7) (ref := "SpotRows") (ci := 7) (v := .ref (a 1)) (C := RX7) (T := TX7) (N := 8) hx hb hts hinX7 hown hK.1 hP 0 rfl rfl 0 (by decide) fl10 (fun _ h9 => h9) rfl dX7_write_1 ?_
  refine lv_iload_n hx hb dX7_write_4 rfl (lv_at hl 1 rfl) ?_
  refine lv_iload_n hx hb dX7_write_5 rfl (lv_at hl 2 rfl) ?_
  refine cro_i (va_runV (As := [.int tr, .int pl]) (rest := []) ⟨hx, hb, hml, hown, hts⟩ (c_X6_whyNoPlace l G cI cJ (a := a) (so := so) (sz := sz) (tr := tr) (pl := pl) (ts := by first | assumption | omega)) (cwV 2 hts gX7_write_X6_whyNoPlace rfl rfl rfl (by decide +kernel) ⟨Nat.le_of_ble_eq_true rfl, Nat.le_of_ble_eq_true rfl⟩) (preV_ro (wc := [oTr a, aI cI (a 9) 4 (oF so), aI cI (a 10) 4 (nF sz)]) hK hP [1, 2, 3] rfl 6 1 rfl rfl rfl) rfl rfl hl.1 rfl (lv_room (Nat.le_of_ble_eq_true rfl)) dX7_write_6 ⟨Nat.zero_le _, Nat.zero_le _⟩) ?_
  refine lv_istore (lv' := [(5, .int (nI (wnp so sz tr pl))), (0, .ref (a 0)), (1, .int tr), (2, .int pl), (3, .long v)]) hx hb dX7_write_9 hl (by decide) rfl (fun ls hl => ?_)
  refine lv_iload hx hb dX7_write_11 (lv_at hl 0 rfl) ?_
  refine nv_if_eq (tgt := 23) hx hb dX7_write_13 (by decide) (by exact Nat.lt_of_le_of_lt (wnp_le _ _ _ _) (by decide)) (fun c_13 => ?_) (fun c_13 => ?_)
  · obtain ⟨hw1, hw2, hw3⟩ := wnp_0 c_13
    obtain ⟨j_tr, h_tr, rfl⟩ := rg_ex hw1
    have e_tr := nn_nI (j := j_tr) (by omega)
    rw [e_tr] at hw2 hw3
    have h8 := ts j_tr
    obtain ⟨j_pl, h_pl, rfl⟩ := rg_ex hw3
    have e_pl := nn_nI (j := j_pl) (by omega)
    refine lv_aload_n hx hb dX7_write_23 rfl (lv_at hl 1 rfl) ?_
    refine va_get (D := G) (own := RX7) (ref := "SpotRows") (ci := 7) (v := .ref (a 1)) (C := RX7) (T := TX7) (N := 8) hx hb hts hinX7 hown hK.1 hP 0 rfl rfl 0 (by decide) fl10 (fun _ h9 => h9) rfl dX7_write_24 ?_
    refine lv_iload_n hx hb dX7_write_27 rfl (lv_at hl 2 rfl) ?_
    refine lv_iload_n hx hb dX7_write_28 rfl (lv_at hl 3 rfl) ?_
    refine lv_lload_n hx hb dX7_write_29 rfl (lv_at hl 4 rfl) ?_
    refine crw_v (free := fun _ => True) (va_runV (As := [.int (nI j_tr), .int (nI j_pl), .long v]) (rest := []) ⟨hx, hb, hml, hown, hts⟩ (c_X6_put l G cI cJ (a := a) (so := so) (sz := sz) (z := z) (tr := j_tr) (pl := j_pl) (v := v) (ts := by first | assumption | omega) (h1 := by first | assumption | omega) (h2 := by first | assumption | omega) (h3 := by first | assumption | omega)) (cwV 3 hts gX7_write_X6_put rfl rfl rfl (by decide +kernel) ⟨Nat.le_of_ble_eq_true rfl, Nat.le_of_ble_eq_true rfl⟩) (preV_rw (wc := [oTr a, aI cI (a 9) 4 (oF so), aJ cJ (a 8) 240 z]) hK hP hD [1, 2, 4] rfl rfl 6 1 rfl rfl rfl) rfl rfl hl.1 rfl (lv_room (Nat.le_of_ble_eq_true rfl)) dX7_write_30 ⟨Nat.zero_le _, Nat.zero_le _⟩) hP hD hS [1, 2, 4] rfl [a 1, a 9, a 8] (fun u => rfl) rfl (fun u_ H locs hw_30 hP hD hS => ?_)
    have hP : va_P G vwCl [oX a oc, oTr a, aI cI (a 9) 4 (oF so), aI cI (a 10) 4 (nF sz), aJ cJ (a 8) 240 (upN z (j_tr * 60 + j_pl) (cutF (so j_tr - 1) v))] H := hP
    have hD : va_D A [oX a oc, oTr a, aI cI (a 9) 4 (oF so), aI cI (a 10) 4 (nF sz), aJ cJ (a 8) 240 (upN z (j_tr * 60 + j_pl) (cutF (so j_tr - 1) v))] := hD
    refine lv_aload_n hx hb dX7_write_33 rfl (lv_at hl 1 rfl) ?_
    refine crw_i (va_runV (As := []) (rest := []) ⟨hx, hb, hml, hown, hts⟩ (c_X7_agree l G cI cJ (a := a) (oc := oc) ) (cwV 0 hts gX7_write_X7_agree rfl rfl rfl (by decide +kernel) ⟨Nat.le_of_ble_eq_true rfl, Nat.le_of_ble_eq_true rfl⟩) (preV_rw (wc := [oX a oc]) hK hP hD [0] rfl rfl 7 0 rfl rfl rfl) rfl rfl hl.1 rfl (lv_room (Nat.le_of_ble_eq_true rfl)) dX7_write_34 ⟨Nat.zero_le _, Nat.zero_le _⟩) hP hD hS [0] rfl [a 0] (fun u => rfl) rfl (fun r_34 u_ H locs hw_34 hP hD hS => ?_)
    have hP : va_P G vwCl [oX a (nI 0), oTr a, aI cI (a 9) 4 (oF so), aI cI (a 10) 4 (nF sz), aJ cJ (a 8) 240 (upN z (j_tr * 60 + j_pl) (cutF (so j_tr - 1) v))] H := hP
    have hD : va_D A [oX a (nI 0), oTr a, aI cI (a 9) 4 (oF so), aI cI (a 10) 4 (nF sz), aJ cJ (a 8) 240 (upN z (j_tr * 60 + j_pl) (cutF (so j_tr - 1) v))] := hD
    refine toi hw_34 ?_
    have hP : va_P G vwCl [oX a (nI (wnp so sz (nI j_tr) (nI j_pl))), oTr a, aI cI (a 9) 4 (oF so), aI cI (a 10) 4 (nF sz), aJ cJ (a 8) 240 (zWrite so sz z (nI j_tr) (nI j_pl) v)] H := by
      have ew : ([oX a (nI 0), oTr a, aI cI (a 9) 4 (oF so), aI cI (a 10) 4 (nF sz), aJ cJ (a 8) 240 (upN z (j_tr * 60 + j_pl) (cutF (so j_tr - 1) v))] : va_W) = [oX a (nI (wnp so sz (nI j_tr) (nI j_pl))), oTr a, aI cI (a 9) 4 (oF so), aI cI (a 10) 4 (nF sz), aJ cJ (a 8) 240 (zWrite so sz z (nI j_tr) (nI j_pl) v)] := (wvC (congrArg (fun zz => oX a zz) (show nI 0 = nI (wnp so sz (nI j_tr) (nI j_pl)) from (congrArg nI (show 0 = (wnp so sz (nI j_tr) (nI j_pl)) from by first | (simp [zWrite, c_13, e_tr, e_pl]; done) | exact c_13)))) (wvC rfl (wvC rfl (wvC rfl (wvC (congrArg (fun z => aJ cJ (a 8) 240 z) (show (upN z (j_tr * 60 + j_pl) (cutF (so j_tr - 1) v)) = (zWrite so sz z (nI j_tr) (nI j_pl) v) from by first | (simp [zWrite, c_13, e_tr, e_pl]; done) | exact c_13)) rfl)))))
      rw [← ew]; exact hP
    exact W.zret (v := nI 1) hx hb hr rfl (fun zt ht zw => ⟨⟨_, (), rfl, (show nI 1 = bi (wnp so sz (nI j_tr) (nI j_pl) = 0) from (bi_t (by first | (simp [zWrite, c_13, e_tr, e_pl]; done) | exact c_13)).symm), by show va_P _ _ _ zt.heap; rw [ht]; exact hP⟩, by rw [hAe]; exact hS.F ht⟩) hS.2.2 dX7_write_37
  refine lv_aload_n hx hb dX7_write_16 rfl (lv_at hl 1 rfl) ?_
  refine lv_iload hx hb dX7_write_17 (lv_at hl 0 rfl) ?_
  refine crw_i (va_runV (As := [.int (nI (wnp so sz tr pl))]) (rest := []) ⟨hx, hb, hml, hown, hts⟩ (c_X7_refuse l G cI cJ (a := a) (oc := oc) (w := nI (wnp so sz tr pl)) ) (cwV 1 hts gX7_write_X7_refuse rfl rfl rfl (by decide +kernel) ⟨Nat.le_of_ble_eq_true rfl, Nat.le_of_ble_eq_true rfl⟩) (preV_rw (wc := [oX a oc]) hK hP hD [0] rfl rfl 7 0 rfl rfl rfl) rfl rfl hl.1 rfl (lv_room (Nat.le_of_ble_eq_true rfl)) dX7_write_19 ⟨Nat.zero_le _, Nat.zero_le _⟩) hP hD hS [0] rfl [a 0] (fun u => rfl) rfl (fun r_19 u_ H locs hw_19 hP hD hS => ?_)
  have hP : va_P G vwCl [oX a (nI (wnp so sz tr pl)), oTr a, aI cI (a 9) 4 (oF so), aI cI (a 10) 4 (nF sz), aJ cJ (a 8) 240 z] H := hP
  have hD : va_D A [oX a (nI (wnp so sz tr pl)), oTr a, aI cI (a 9) 4 (oF so), aI cI (a 10) 4 (nF sz), aJ cJ (a 8) 240 z] := hD
  refine toi hw_19 ?_
  have hP : va_P G vwCl [oX a (nI (wnp so sz tr pl)), oTr a, aI cI (a 9) 4 (oF so), aI cI (a 10) 4 (nF sz), aJ cJ (a 8) 240 (zWrite so sz z tr pl v)] H := by
    have ew : ([oX a (nI (wnp so sz tr pl)), oTr a, aI cI (a 9) 4 (oF so), aI cI (a 10) 4 (nF sz), aJ cJ (a 8) 240 z] : va_W) = [oX a (nI (wnp so sz tr pl)), oTr a, aI cI (a 9) 4 (oF so), aI cI (a 10) 4 (nF sz), aJ cJ (a 8) 240 (zWrite so sz z tr pl v)] := (wvC rfl (wvC rfl (wvC rfl (wvC rfl (wvC (congrArg (fun z => aJ cJ (a 8) 240 z) (show z = (zWrite so sz z tr pl v) from by first | (simp [zWrite, c_13]; done) | exact c_13)) rfl)))))
    rw [← ew]; exact hP
  exact W.zret (v := nI 0) hx hb hr rfl (fun zt ht zw => ⟨⟨_, (), rfl, (show nI 0 = bi (wnp so sz tr pl = 0) from (bi_f (by first | (simp [zWrite, c_13]; done) | exact c_13)).symm), by show va_P _ _ _ zt.heap; rw [ht]; exact hP⟩, by rw [hAe]; exact hS.F ht⟩) hS.2.2 dX7_write_22

set_option maxHeartbeats 400000 in
set_option maxRecDepth 100000 in
theorem c_X7_read (l : Launch) (G : va_G) (cI cJ : ClassId) (a : Nat → Nat) (oc : Int32) (so : Nat → Nat) (sz : Nat → Nat) (z : Nat → Int64) (tr : Int32) (pl : Int32) (ts : TS so sz) : Met l yX7_read wsX7_read ({ frames := 2, cells := 0, slots := 0, locals := 43 }) (rwP G cI cJ [.ref (a 0), .int tr, .int pl] [oX a oc, oTr a, aI cI (a 9) 4 (oF so), aI cI (a 10) 4 (nF sz), aJ cJ (a 8) 240 z]) (rwQl G [oX a oc, oTr a, aI cI (a 9) 4 (oF so), aI cI (a 10) 4 (nF sz), aJ cJ (a 8) 240 z] (fun (r : Int64) (_ : Unit) => r = rRead so sz z tr pl) (fun (_ : Unit) => [oX a (nI (wnp so sz tr pl)), oTr a, aI cI (a 9) 4 (oF so), aI cI (a 10) 4 (nF sz), aJ cJ (a 8) 240 z])) 0 0 (ads [oX a oc, oTr a, aI cI (a 9) 4 (oF so), aI cI (a 10) 4 (nF sz), aJ cJ (a 8) 240 z]) := by
  refine Met.ofW (cc := cX7_read) (maxL := 4) (ret := (some .long)) (by decide) rfl ?_
  intro pg ev s mt args below meth cd s₁ B hml hv
  obtain ⟨rfl, hP, hD0, hK⟩ := hv
  have hx := B.exec
  have hb := B.bytes
  have hr := B.returns
  have hts := atoms_spec (ws := wsX7_read) B.pre
  have hown : s.vm.findClass RX7 = some mt.cls := findClass_of_methodNamed B.named
  have hlocks := B.notSynchronized
  have hD := ads_self hD0
  generalize hAe : ads [oX a oc, oTr a, aI cI (a 9) 4 (oF so), aI cI (a 10) 4 (nF sz), aJ cJ (a 8) 240 z] = A at hD ⊢
  have hS : va_S A s.heap s.heap [] := va_S.rf
  have hP : va_P G vwCl [oX a oc, oTr a, aI cI (a 9) 4 (oF so), aI cI (a 10) 4 (nF sz), aJ cJ (a 8) 240 z] s.heap := hP
  have hinX7 := (show ∀ w ∈ u_ws RX7 TX7 8, w ∈ wsX7_read by decide +kernel)
  have fl10 := hts (.fieldLink RX7 10 "SpotRows" "trays" "LSpotRows$Trays;") (by decide +kernel)
  have fl58 := hts (.fieldLink RX7 58 "SpotRows" "outcome" "I") (by decide +kernel)
  have hl := lv_entry ([.ref (a 0), .int tr, .int pl]) (n := 4) (Nat.le_of_ble_eq_true rfl)
  rw [lg_entry_eq]
  generalize (lg_sl ([.ref (a 0), .int tr, .int pl]) ++ List.replicate (4 - (lg_sl ([.ref (a 0), .int tr, .int pl])).length) Slot.unset).toArray = ls at hl ⊢
  have hl : lv_has ls 4 [(0, .ref (a 0)), (1, .int tr), (2, .int pl)] := hl
  refine lv_aload_n hx hb dX7_read_0 rfl (lv_at hl 0 rfl) ?_
  refine va_get (D := G) (own := RX7) (ref := "SpotRows") (ci := 7) (v := .ref (a 1)) (C := RX7) (T := TX7) (N := 8) hx hb hts hinX7 hown hK.1 hP 0 rfl rfl 0 (by decide) fl10 (fun _ h9 => h9) rfl dX7_read_1 ?_
  refine lv_iload_n hx hb dX7_read_4 rfl (lv_at hl 1 rfl) ?_
  refine lv_iload_n hx hb dX7_read_5 rfl (lv_at hl 2 rfl) ?_
  refine cro_i (va_runV (As := [.int tr, .int pl]) (rest := []) ⟨hx, hb, hml, hown, hts⟩ (c_X6_whyNoPlace l G cI cJ (a := a) (so := so) (sz := sz) (tr := tr) (pl := pl) (ts := by first | assumption | omega)) (cwV 2 hts gX7_read_X6_whyNoPlace rfl rfl rfl (by decide +kernel) ⟨Nat.le_of_ble_eq_true rfl, Nat.le_of_ble_eq_true rfl⟩) (preV_ro (wc := [oTr a, aI cI (a 9) 4 (oF so), aI cI (a 10) 4 (nF sz)]) hK hP [1, 2, 3] rfl 6 1 rfl rfl rfl) rfl rfl hl.1 rfl (lv_room (Nat.le_of_ble_eq_true rfl)) dX7_read_6 ⟨Nat.zero_le _, Nat.zero_le _⟩) ?_
  refine lv_istore_n (lv' := [(3, .int (nI (wnp so sz tr pl))), (0, .ref (a 0)), (1, .int tr), (2, .int pl)]) hx hb dX7_read_9 rfl hl (by decide) rfl (fun ls hl => ?_)
  refine lv_iload_n hx hb dX7_read_10 rfl (lv_at hl 0 rfl) ?_
  refine nv_if_eq (tgt := 21) hx hb dX7_read_11 (by decide) (by exact Nat.lt_of_le_of_lt (wnp_le _ _ _ _) (by decide)) (fun c_11 => ?_) (fun c_11 => ?_)
  · obtain ⟨hw1, hw2, hw3⟩ := wnp_0 c_11
    obtain ⟨j_tr, h_tr, rfl⟩ := rg_ex hw1
    have e_tr := nn_nI (j := j_tr) (by omega)
    rw [e_tr] at hw2 hw3
    have h8 := ts j_tr
    obtain ⟨j_pl, h_pl, rfl⟩ := rg_ex hw3
    have e_pl := nn_nI (j := j_pl) (by omega)
    refine lv_aload_n hx hb dX7_read_21 rfl (lv_at hl 1 rfl) ?_
    refine lv_iconst (v := nI 0) hx hb dX7_read_22 (by decide) ?_
    refine va_put (D := G) (own := RX7) (ref := "SpotRows") (ci := 7) (v := .int (nI 0)) (ty := .int) (C := RX7) (T := TX7) (N := 8) hx hb hts hinX7 tyX7 tyX7_ok nmX7 hown hK.1 hP hD hS 0 rfl rfl 7 (by decide) fl58 (fun _ h9 => h9) rfl (by decide +kernel) rfl rfl (Nat.le_of_ble_eq_true rfl) dX7_read_23 (fun H locs hP hD hS => ?_)
    have hP : va_P G vwCl [oX a (nI 0), oTr a, aI cI (a 9) 4 (oF so), aI cI (a 10) 4 (nF sz), aJ cJ (a 8) 240 z] H := hP
    have hD : va_D A [oX a (nI 0), oTr a, aI cI (a 9) 4 (oF so), aI cI (a 10) 4 (nF sz), aJ cJ (a 8) 240 z] := hD
    refine lv_aload_n hx hb dX7_read_26 rfl (lv_at hl 1 rfl) ?_
    refine va_get (D := G) (own := RX7) (ref := "SpotRows") (ci := 7) (v := .ref (a 1)) (C := RX7) (T := TX7) (N := 8) hx hb hts hinX7 hown hK.1 hP 0 rfl rfl 0 (by decide) fl10 (fun _ h9 => h9) rfl dX7_read_27 ?_
    refine lv_iload_n hx hb dX7_read_30 rfl (lv_at hl 2 rfl) ?_
    refine lv_iload_n hx hb dX7_read_31 rfl (lv_at hl 3 rfl) ?_
    refine cro_l (va_runV (As := [.int (nI j_tr), .int (nI j_pl)]) (rest := []) ⟨hx, hb, hml, hown, hts⟩ (c_X6_numberAt l G cI cJ (a := a) (z := z) (tr := j_tr) (pl := j_pl) (h1 := by first | assumption | omega) (h2 := by first | assumption | omega)) (cwV 2 hts gX7_read_X6_numberAt rfl rfl rfl (by decide +kernel) ⟨Nat.le_of_ble_eq_true rfl, Nat.le_of_ble_eq_true rfl⟩) (preV_ro (wc := [oTr a, aJ cJ (a 8) 240 z]) hK hP [1, 4] rfl 6 1 rfl rfl rfl) rfl rfl hl.1 rfl (lv_room (Nat.le_of_ble_eq_true rfl)) dX7_read_32 ⟨Nat.zero_le _, Nat.zero_le _⟩) ?_
    have hP : va_P G vwCl [oX a (nI (wnp so sz (nI j_tr) (nI j_pl))), oTr a, aI cI (a 9) 4 (oF so), aI cI (a 10) 4 (nF sz), aJ cJ (a 8) 240 z] H := by
      have ew : ([oX a (nI 0), oTr a, aI cI (a 9) 4 (oF so), aI cI (a 10) 4 (nF sz), aJ cJ (a 8) 240 z] : va_W) = [oX a (nI (wnp so sz (nI j_tr) (nI j_pl))), oTr a, aI cI (a 9) 4 (oF so), aI cI (a 10) 4 (nF sz), aJ cJ (a 8) 240 z] := (wvC (congrArg (fun zz => oX a zz) (show nI 0 = nI (wnp so sz (nI j_tr) (nI j_pl)) from (congrArg nI (show 0 = (wnp so sz (nI j_tr) (nI j_pl)) from by first | exact c_11.symm | (simp [rRead, c_11, e_tr, e_pl]; done) | (simp [rRead, c_11]; done) | (rw [rRead, if_neg c_11]; decide))))) (wvC rfl (wvC rfl (wvC rfl (wvC rfl rfl)))))
      rw [← ew]; exact hP
    exact W.lret (v := z (j_tr * 60 + j_pl)) hx hb hr (fun zt ht zw => ⟨⟨_, (), rfl, (show z (j_tr * 60 + j_pl) = rRead so sz z (nI j_tr) (nI j_pl) from by first | exact c_11.symm | (simp [rRead, c_11, e_tr, e_pl]; done) | (simp [rRead, c_11]; done) | (rw [rRead, if_neg c_11]; decide)), by show va_P _ _ _ zt.heap; rw [ht]; exact hP⟩, by rw [hAe]; exact hS.F ht⟩) hS.2.2 dX7_read_35
  refine lv_aload_n hx hb dX7_read_14 rfl (lv_at hl 1 rfl) ?_
  refine lv_iload_n hx hb dX7_read_15 rfl (lv_at hl 0 rfl) ?_
  refine crw_i (va_runV (As := [.int (nI (wnp so sz tr pl))]) (rest := []) ⟨hx, hb, hml, hown, hts⟩ (c_X7_lack l G cI cJ (a := a) (oc := oc) (w := nI (wnp so sz tr pl)) ) (cwV 1 hts gX7_read_X7_lack rfl rfl rfl (by decide +kernel) ⟨Nat.le_of_ble_eq_true rfl, Nat.le_of_ble_eq_true rfl⟩) (preV_rw (wc := [oX a oc]) hK hP hD [0] rfl rfl 7 0 rfl rfl rfl) rfl rfl hl.1 rfl (lv_room (Nat.le_of_ble_eq_true rfl)) dX7_read_16 ⟨Nat.zero_le _, Nat.zero_le _⟩) hP hD hS [0] rfl [a 0] (fun u => rfl) rfl (fun r_16 u_ H locs hw_16 hP hD hS => ?_)
  have hP : va_P G vwCl [oX a (nI (wnp so sz tr pl)), oTr a, aI cI (a 9) 4 (oF so), aI cI (a 10) 4 (nF sz), aJ cJ (a 8) 240 z] H := hP
  have hD : va_D A [oX a (nI (wnp so sz tr pl)), oTr a, aI cI (a 9) 4 (oF so), aI cI (a 10) 4 (nF sz), aJ cJ (a 8) 240 z] := hD
  refine toi hw_16 ?_
  refine lv_i2l (v := (-1)) hx hb dX7_read_19 (by decide) ?_
  exact W.lret (v := (-1)) hx hb hr (fun zt ht zw => ⟨⟨_, (), rfl, (show (-1) = rRead so sz z tr pl from by first | exact c_11.symm | (simp [rRead, c_11, e_tr, e_pl]; done) | (simp [rRead, c_11]; done) | (rw [rRead, if_neg c_11]; decide)), by show va_P _ _ _ zt.heap; rw [ht]; exact hP⟩, by rw [hAe]; exact hS.F ht⟩) hS.2.2 dX7_read_20

set_option maxHeartbeats 400000 in
set_option maxRecDepth 100000 in
theorem c_X7_pour (l : Launch) (G : va_G) (cI cJ : ClassId) (a : Nat → Nat) (oc : Int32) (so : Nat → Nat) (sz : Nat → Nat) (z : Nat → Int64) (fr : Int32) (pl : Int32) (to : Int32) (at_ : Int32) (mn : Int32) (ts : TS so sz) : Met l yX7_pour wsX7_pour ({ frames := 2, cells := 0, slots := 0, locals := 85 }) (rwP G cI cJ [.ref (a 0), .int fr, .int pl, .int to, .int at_, .int mn] [oX a oc, oTr a, aI cI (a 9) 4 (oF so), aI cI (a 10) 4 (nF sz), aJ cJ (a 8) 240 z]) (rwQi G [oX a oc, oTr a, aI cI (a 9) 4 (oF so), aI cI (a 10) 4 (nF sz), aJ cJ (a 8) 240 z] (fun (r : Int32) (_ : Unit) => r = bi (wpo so sz fr pl to at_ mn = 0)) (fun (_ : Unit) => [oX a (nI (wpo so sz fr pl to at_ mn)), oTr a, aI cI (a 9) 4 (oF so), aI cI (a 10) 4 (nF sz), aJ cJ (a 8) 240 (zPour so sz z fr pl to at_ mn)])) 0 0 (ads [oX a oc, oTr a, aI cI (a 9) 4 (oF so), aI cI (a 10) 4 (nF sz), aJ cJ (a 8) 240 z]) := by
  refine Met.ofW (cc := cX7_pour) (maxL := 7) (ret := (some .boolean)) (by decide) rfl ?_
  intro pg ev s mt args below meth cd s₁ B hml hv
  obtain ⟨rfl, hP, hD0, hK⟩ := hv
  have hx := B.exec
  have hb := B.bytes
  have hr := B.returns
  have hts := atoms_spec (ws := wsX7_pour) B.pre
  have hown : s.vm.findClass RX7 = some mt.cls := findClass_of_methodNamed B.named
  have hlocks := B.notSynchronized
  have hD := ads_self hD0
  generalize hAe : ads [oX a oc, oTr a, aI cI (a 9) 4 (oF so), aI cI (a 10) 4 (nF sz), aJ cJ (a 8) 240 z] = A at hD ⊢
  have hS : va_S A s.heap s.heap [] := va_S.rf
  have hP : va_P G vwCl [oX a oc, oTr a, aI cI (a 9) 4 (oF so), aI cI (a 10) 4 (nF sz), aJ cJ (a 8) 240 z] s.heap := hP
  have hinX7 := (show ∀ w ∈ u_ws RX7 TX7 8, w ∈ wsX7_pour by decide +kernel)
  have fl10 := hts (.fieldLink RX7 10 "SpotRows" "trays" "LSpotRows$Trays;") (by decide +kernel)
  have hl := lv_entry ([.ref (a 0), .int fr, .int pl, .int to, .int at_, .int mn]) (n := 7) (Nat.le_of_ble_eq_true rfl)
  rw [lg_entry_eq]
  generalize (lg_sl ([.ref (a 0), .int fr, .int pl, .int to, .int at_, .int mn]) ++ List.replicate (7 - (lg_sl ([.ref (a 0), .int fr, .int pl, .int to, .int at_, .int mn])).length) Slot.unset).toArray = ls at hl ⊢
  have hl : lv_has ls 7 [(0, .ref (a 0)), (1, .int fr), (2, .int pl), (3, .int to), (4, .int at_), (5, .int mn)] := hl
  refine lv_aload_n hx hb dX7_pour_0 rfl (lv_at hl 0 rfl) ?_
  refine lv_iload_n hx hb dX7_pour_1 rfl (lv_at hl 1 rfl) ?_
  refine lv_iload_n hx hb dX7_pour_2 rfl (lv_at hl 2 rfl) ?_
  refine lv_iload_n hx hb dX7_pour_3 rfl (lv_at hl 3 rfl) ?_
  refine lv_iload hx hb dX7_pour_4 (lv_at hl 4 rfl) ?_
  refine lv_iload hx hb dX7_pour_6 (lv_at hl 5 rfl) ?_
  refine cro_i (va_runV (As := [.int fr, .int pl, .int to, .int at_, .int mn]) (rest := []) ⟨hx, hb, hml, hown, hts⟩ (c_X7_whyNoPour l G cI cJ (a := a) (oc := oc) (so := so) (sz := sz) (fr := fr) (pl := pl) (to := to) (at_ := at_) (mn := mn) (ts := by first | assumption | omega)) (cwV 5 hts gX7_pour_X7_whyNoPour rfl rfl rfl (by decide +kernel) ⟨Nat.le_of_ble_eq_true rfl, Nat.le_of_ble_eq_true rfl⟩) (preV_ro (wc := [oX a oc, oTr a, aI cI (a 9) 4 (oF so), aI cI (a 10) 4 (nF sz)]) hK hP [0, 1, 2, 3] rfl 7 0 rfl rfl rfl) rfl rfl hl.1 rfl (lv_room (Nat.le_of_ble_eq_true rfl)) dX7_pour_8 ⟨Nat.zero_le _, Nat.zero_le _⟩) ?_
  refine lv_istore (lv' := [(6, .int (nI (wpo so sz fr pl to at_ mn))), (0, .ref (a 0)), (1, .int fr), (2, .int pl), (3, .int to), (4, .int at_), (5, .int mn)]) hx hb dX7_pour_11 hl (by decide) rfl (fun ls hl => ?_)
  refine lv_iload hx hb dX7_pour_13 (lv_at hl 0 rfl) ?_
  refine nv_if_eq (tgt := 25) hx hb dX7_pour_15 (by decide) (by exact Nat.lt_of_le_of_lt (wpo_le _ _ _ _ _ _ _) (by decide)) (fun c_15 => ?_) (fun c_15 => ?_)
  · obtain ⟨hw1, hw2, hw3, hw4, hw5, hw6, hw7⟩ := wpo_0 c_15
    obtain ⟨j_fr, h_fr, rfl⟩ := rg_ex hw1
    have e_fr := nn_nI (j := j_fr) (by omega)
    obtain ⟨j_to, h_to, rfl⟩ := rg_ex hw2
    have e_to := nn_nI (j := j_to) (by omega)
    obtain ⟨j_pl, h_pl, rfl⟩ := nI_of hw3
    have e_pl := nn_nI (j := j_pl) h_pl
    obtain ⟨j_at_, h_at_, rfl⟩ := nI_of hw4
    have e_at_ := nn_nI (j := j_at_) h_at_
    obtain ⟨j_mn, h_mn, rfl⟩ := nI_of hw5
    have e_mn := nn_nI (j := j_mn) h_mn
    rw [e_fr, e_pl, e_mn] at hw6
    rw [e_to, e_at_, e_mn] at hw7
    have h8 := ts j_fr
    have h9 := ts j_to
    refine lv_aload_n hx hb dX7_pour_25 rfl (lv_at hl 1 rfl) ?_
    refine va_get (D := G) (own := RX7) (ref := "SpotRows") (ci := 7) (v := .ref (a 1)) (C := RX7) (T := TX7) (N := 8) hx hb hts hinX7 hown hK.1 hP 0 rfl rfl 0 (by decide) fl10 (fun _ h9 => h9) rfl dX7_pour_26 ?_
    refine lv_iload_n hx hb dX7_pour_29 rfl (lv_at hl 2 rfl) ?_
    refine lv_iload_n hx hb dX7_pour_30 rfl (lv_at hl 3 rfl) ?_
    refine lv_iload_n hx hb dX7_pour_31 rfl (lv_at hl 4 rfl) ?_
    refine lv_iload hx hb dX7_pour_32 (lv_at hl 5 rfl) ?_
    refine lv_iload hx hb dX7_pour_34 (lv_at hl 6 rfl) ?_
    refine crw_v (free := fun _ => True) (va_runV (As := [.int (nI j_fr), .int (nI j_pl), .int (nI j_to), .int (nI j_at_), .int (nI j_mn)]) (rest := []) ⟨hx, hb, hml, hown, hts⟩ (c_X6_carry l G cI cJ (a := a) (z := z) (fr := j_fr) (pl := j_pl) (to := j_to) (at_ := j_at_) (mn := j_mn) (h1 := by first | assumption | omega) (h2 := by first | assumption | omega) (h3 := by first | assumption | omega) (h4 := by first | assumption | omega)) (cwV 5 hts gX7_pour_X6_carry rfl rfl rfl (by decide +kernel) ⟨Nat.le_of_ble_eq_true rfl, Nat.le_of_ble_eq_true rfl⟩) (preV_rw (wc := [oTr a, aJ cJ (a 8) 240 z]) hK hP hD [1, 4] rfl rfl 6 1 rfl rfl rfl) rfl rfl hl.1 rfl (lv_room (Nat.le_of_ble_eq_true rfl)) dX7_pour_36 ⟨Nat.zero_le _, Nat.zero_le _⟩) hP hD hS [1, 4] rfl [a 1, a 8] (fun u => rfl) rfl (fun u_ H locs hw_36 hP hD hS => ?_)
    have hP : va_P G vwCl [oX a oc, oTr a, aI cI (a 9) 4 (oF so), aI cI (a 10) 4 (nF sz), aJ cJ (a 8) 240 (va_cpy z z (j_fr * 60 + j_pl) (j_to * 60 + j_at_) j_mn)] H := hP
    have hD : va_D A [oX a oc, oTr a, aI cI (a 9) 4 (oF so), aI cI (a 10) 4 (nF sz), aJ cJ (a 8) 240 (va_cpy z z (j_fr * 60 + j_pl) (j_to * 60 + j_at_) j_mn)] := hD
    refine lv_aload_n hx hb dX7_pour_39 rfl (lv_at hl 1 rfl) ?_
    refine crw_i (va_runV (As := []) (rest := []) ⟨hx, hb, hml, hown, hts⟩ (c_X7_agree l G cI cJ (a := a) (oc := oc) ) (cwV 0 hts gX7_pour_X7_agree rfl rfl rfl (by decide +kernel) ⟨Nat.le_of_ble_eq_true rfl, Nat.le_of_ble_eq_true rfl⟩) (preV_rw (wc := [oX a oc]) hK hP hD [0] rfl rfl 7 0 rfl rfl rfl) rfl rfl hl.1 rfl (lv_room (Nat.le_of_ble_eq_true rfl)) dX7_pour_40 ⟨Nat.zero_le _, Nat.zero_le _⟩) hP hD hS [0] rfl [a 0] (fun u => rfl) rfl (fun r_40 u_ H locs hw_40 hP hD hS => ?_)
    have hP : va_P G vwCl [oX a (nI 0), oTr a, aI cI (a 9) 4 (oF so), aI cI (a 10) 4 (nF sz), aJ cJ (a 8) 240 (va_cpy z z (j_fr * 60 + j_pl) (j_to * 60 + j_at_) j_mn)] H := hP
    have hD : va_D A [oX a (nI 0), oTr a, aI cI (a 9) 4 (oF so), aI cI (a 10) 4 (nF sz), aJ cJ (a 8) 240 (va_cpy z z (j_fr * 60 + j_pl) (j_to * 60 + j_at_) j_mn)] := hD
    refine toi hw_40 ?_
    have hP : va_P G vwCl [oX a (nI (wpo so sz (nI j_fr) (nI j_pl) (nI j_to) (nI j_at_) (nI j_mn))), oTr a, aI cI (a 9) 4 (oF so), aI cI (a 10) 4 (nF sz), aJ cJ (a 8) 240 (zPour so sz z (nI j_fr) (nI j_pl) (nI j_to) (nI j_at_) (nI j_mn))] H := by
      have ew : ([oX a (nI 0), oTr a, aI cI (a 9) 4 (oF so), aI cI (a 10) 4 (nF sz), aJ cJ (a 8) 240 (va_cpy z z (j_fr * 60 + j_pl) (j_to * 60 + j_at_) j_mn)] : va_W) = [oX a (nI (wpo so sz (nI j_fr) (nI j_pl) (nI j_to) (nI j_at_) (nI j_mn))), oTr a, aI cI (a 9) 4 (oF so), aI cI (a 10) 4 (nF sz), aJ cJ (a 8) 240 (zPour so sz z (nI j_fr) (nI j_pl) (nI j_to) (nI j_at_) (nI j_mn))] := (wvC (congrArg (fun zz => oX a zz) (show nI 0 = nI (wpo so sz (nI j_fr) (nI j_pl) (nI j_to) (nI j_at_) (nI j_mn)) from (congrArg nI (show 0 = (wpo so sz (nI j_fr) (nI j_pl) (nI j_to) (nI j_at_) (nI j_mn)) from by first | (simp [zPour, c_15, e_fr, e_to, e_pl, e_at_, e_mn]; done) | (simp [zPour, c_15]; done) | exact c_15 | exact c_15.symm)))) (wvC rfl (wvC rfl (wvC rfl (wvC (congrArg (fun z => aJ cJ (a 8) 240 z) (show (va_cpy z z (j_fr * 60 + j_pl) (j_to * 60 + j_at_) j_mn) = (zPour so sz z (nI j_fr) (nI j_pl) (nI j_to) (nI j_at_) (nI j_mn)) from by first | (simp [zPour, c_15, e_fr, e_to, e_pl, e_at_, e_mn]; done) | (simp [zPour, c_15]; done) | exact c_15 | exact c_15.symm)) rfl)))))
      rw [← ew]; exact hP
    exact W.zret (v := nI 1) hx hb hr rfl (fun zt ht zw => ⟨⟨_, (), rfl, (show nI 1 = bi (wpo so sz (nI j_fr) (nI j_pl) (nI j_to) (nI j_at_) (nI j_mn) = 0) from (bi_t (by first | (simp [zPour, c_15, e_fr, e_to, e_pl, e_at_, e_mn]; done) | (simp [zPour, c_15]; done) | exact c_15 | exact c_15.symm)).symm), by show va_P _ _ _ zt.heap; rw [ht]; exact hP⟩, by rw [hAe]; exact hS.F ht⟩) hS.2.2 dX7_pour_43
  refine lv_aload_n hx hb dX7_pour_18 rfl (lv_at hl 1 rfl) ?_
  refine lv_iload hx hb dX7_pour_19 (lv_at hl 0 rfl) ?_
  refine crw_i (va_runV (As := [.int (nI (wpo so sz fr pl to at_ mn))]) (rest := []) ⟨hx, hb, hml, hown, hts⟩ (c_X7_refuse l G cI cJ (a := a) (oc := oc) (w := nI (wpo so sz fr pl to at_ mn)) ) (cwV 1 hts gX7_pour_X7_refuse rfl rfl rfl (by decide +kernel) ⟨Nat.le_of_ble_eq_true rfl, Nat.le_of_ble_eq_true rfl⟩) (preV_rw (wc := [oX a oc]) hK hP hD [0] rfl rfl 7 0 rfl rfl rfl) rfl rfl hl.1 rfl (lv_room (Nat.le_of_ble_eq_true rfl)) dX7_pour_21 ⟨Nat.zero_le _, Nat.zero_le _⟩) hP hD hS [0] rfl [a 0] (fun u => rfl) rfl (fun r_21 u_ H locs hw_21 hP hD hS => ?_)
  have hP : va_P G vwCl [oX a (nI (wpo so sz fr pl to at_ mn)), oTr a, aI cI (a 9) 4 (oF so), aI cI (a 10) 4 (nF sz), aJ cJ (a 8) 240 z] H := hP
  have hD : va_D A [oX a (nI (wpo so sz fr pl to at_ mn)), oTr a, aI cI (a 9) 4 (oF so), aI cI (a 10) 4 (nF sz), aJ cJ (a 8) 240 z] := hD
  refine toi hw_21 ?_
  have hP : va_P G vwCl [oX a (nI (wpo so sz fr pl to at_ mn)), oTr a, aI cI (a 9) 4 (oF so), aI cI (a 10) 4 (nF sz), aJ cJ (a 8) 240 (zPour so sz z fr pl to at_ mn)] H := by
    have ew : ([oX a (nI (wpo so sz fr pl to at_ mn)), oTr a, aI cI (a 9) 4 (oF so), aI cI (a 10) 4 (nF sz), aJ cJ (a 8) 240 z] : va_W) = [oX a (nI (wpo so sz fr pl to at_ mn)), oTr a, aI cI (a 9) 4 (oF so), aI cI (a 10) 4 (nF sz), aJ cJ (a 8) 240 (zPour so sz z fr pl to at_ mn)] := (wvC rfl (wvC rfl (wvC rfl (wvC rfl (wvC (congrArg (fun z => aJ cJ (a 8) 240 z) (show z = (zPour so sz z fr pl to at_ mn) from by first | (simp [zPour, c_15, e_fr, e_to, e_pl, e_at_, e_mn]; done) | (simp [zPour, c_15]; done) | exact c_15 | exact c_15.symm)) rfl)))))
    rw [← ew]; exact hP
  exact W.zret (v := nI 0) hx hb hr rfl (fun zt ht zw => ⟨⟨_, (), rfl, (show nI 0 = bi (wpo so sz fr pl to at_ mn = 0) from (bi_f (by first | (simp [zPour, c_15, e_fr, e_to, e_pl, e_at_, e_mn]; done) | (simp [zPour, c_15]; done) | exact c_15 | exact c_15.symm)).symm), by show va_P _ _ _ zt.heap; rw [ht]; exact hP⟩, by rw [hAe]; exact hS.F ht⟩) hS.2.2 dX7_pour_24

set_option maxHeartbeats 400000 in
set_option maxRecDepth 100000 in
theorem c_X7_eye (l : Launch) (G : va_G) (cI cJ : ClassId) (a : Nat → Nat) (oc : Int32) (ey : Nat) (le : Int32) (hey : ey ≤ 8) : Met l yX7_eye wsX7_eye ({ frames := 1, cells := 0, slots := 0, locals := 21 }) (rwP G cI cJ [.ref (a 0)] [oX a oc, oTe a (nI ey) le]) (rwQi G [oX a oc, oTe a (nI ey) le] (fun (r : Int32) (_ : Unit) => r = oI (rEye ey)) (fun (_ : Unit) => [oX a (nI (qEye ey)), oTe a (nI (eEye ey)) le])) 0 0 (ads [oX a oc, oTe a (nI ey) le]) := by
  refine Met.ofW (cc := cX7_eye) (maxL := 1) (ret := (some .int)) (by decide) rfl ?_
  intro pg ev s mt args below meth cd s₁ B hml hv
  obtain ⟨rfl, hP, hD0, hK⟩ := hv
  have hx := B.exec
  have hb := B.bytes
  have hr := B.returns
  have hts := atoms_spec (ws := wsX7_eye) B.pre
  have hown : s.vm.findClass RX7 = some mt.cls := findClass_of_methodNamed B.named
  have hlocks := B.notSynchronized
  have hD := ads_self hD0
  generalize hAe : ads [oX a oc, oTe a (nI ey) le] = A at hD ⊢
  have hS : va_S A s.heap s.heap [] := va_S.rf
  have hP : va_P G vwCl [oX a oc, oTe a (nI ey) le] s.heap := hP
  have hinX7 := (show ∀ w ∈ u_ws RX7 TX7 8, w ∈ wsX7_eye by decide +kernel)
  have fl19 := hts (.fieldLink RX7 19 "SpotRows" "tellings" "LSpotRows$Tellings;") (by decide +kernel)
  have hinX5 := (show ∀ w ∈ u_ws RX5 TX5 5, w ∈ wsX7_eye by decide +kernel)
  have fn112 := va_Nw.use (A := ([.ref (a 0)] : List Value).toArray) rfl (hK.2.1 (.fieldLinkNest "SpotRows" 112 "SpotRows$Tellings" "eyes" "I" "SpotRows") (by decide +kernel))
  have hl := lv_entry ([.ref (a 0)]) (n := 1) (Nat.le_of_ble_eq_true rfl)
  rw [lg_entry_eq]
  generalize (lg_sl ([.ref (a 0)]) ++ List.replicate (1 - (lg_sl ([.ref (a 0)])).length) Slot.unset).toArray = ls at hl ⊢
  have hl : lv_has ls 1 [(0, .ref (a 0))] := hl
  refine lv_aload_n hx hb dX7_eye_0 rfl (lv_at hl 0 rfl) ?_
  refine va_get (D := G) (own := RX7) (ref := "SpotRows") (ci := 7) (v := .ref (a 2)) (C := RX7) (T := TX7) (N := 8) hx hb hts hinX7 hown hK.1 hP 0 rfl rfl 1 (by decide) fl19 (fun _ h9 => h9) rfl dX7_eye_1 ?_
  refine va_getN (D := G) (own := RX7) (host := "SpotRows") (ref := "SpotRows$Tellings") (ci := 5) (v := .int (nI ey)) (C := RX5) (T := TX5) (N := 5) hx hb hts hinX5 hown hK.1 hP 1 rfl rfl 3 (by decide) fn112 (fun _ h9 => h9) rfl dX7_eye_4 ?_
  refine lv_bipush (v := nI 8) hx hb dX7_eye_7 (by decide) ?_
  refine nv_icmp_lt (tgt := 18) hx hb dX7_eye_9 (by decide) (by omega) (by omega) (fun c_9 => ?_) (fun c_9 => ?_)
  · refine lv_aload_n hx hb dX7_eye_18 rfl (lv_at hl 0 rfl) ?_
    refine lv_aload_n hx hb dX7_eye_19 rfl (lv_at hl 0 rfl) ?_
    refine va_get (D := G) (own := RX7) (ref := "SpotRows") (ci := 7) (v := .ref (a 2)) (C := RX7) (T := TX7) (N := 8) hx hb hts hinX7 hown hK.1 hP 0 rfl rfl 1 (by decide) fl19 (fun _ h9 => h9) rfl dX7_eye_20 ?_
    refine crw_i (va_runV (As := []) (rest := [.ref (a 0)]) ⟨hx, hb, hml, hown, hts⟩ (c_X5_addEye l G cI cJ (a := a) (ey := ey) (le := le) (hey := by first | assumption | omega)) (cwV 0 hts gX7_eye_X5_addEye rfl rfl rfl (by decide +kernel) ⟨Nat.le_of_ble_eq_true rfl, Nat.le_of_ble_eq_true rfl⟩) (preV_rw (wc := [oTe a (nI ey) le]) hK hP hD [1] rfl rfl 5 1 rfl rfl rfl) rfl rfl hl.1 rfl (lv_room (Nat.le_of_ble_eq_true rfl)) dX7_eye_23 ⟨Nat.zero_le _, Nat.zero_le _⟩) hP hD hS [1] rfl [a 2] (fun u => rfl) rfl (fun r_23 u_ H locs hw_23 hP hD hS => ?_)
    have hP : va_P G vwCl [oX a oc, oTe a (nI (ey + 1)) le] H := hP
    have hD : va_D A [oX a oc, oTe a (nI (ey + 1)) le] := hD
    refine toi hw_23 ?_
    refine crw_i (va_runV (As := [.int (nI ey)]) (rest := []) ⟨hx, hb, hml, hown, hts⟩ (c_X7_answer l G cI cJ (a := a) (oc := oc) (w := nI ey) ) (cwV 1 hts gX7_eye_X7_answer rfl rfl rfl (by decide +kernel) ⟨Nat.le_of_ble_eq_true rfl, Nat.le_of_ble_eq_true rfl⟩) (preV_rw (wc := [oX a oc]) hK hP hD [0] rfl rfl 7 0 rfl rfl rfl) rfl rfl hl.1 rfl (lv_room (Nat.le_of_ble_eq_true rfl)) dX7_eye_26 ⟨Nat.zero_le _, Nat.zero_le _⟩) hP hD hS [0] rfl [a 0] (fun u => rfl) rfl (fun r_26 u_ H locs hw_26 hP hD hS => ?_)
    have hP : va_P G vwCl [oX a (nI 0), oTe a (nI (ey + 1)) le] H := hP
    have hD : va_D A [oX a (nI 0), oTe a (nI (ey + 1)) le] := hD
    refine toi hw_26 ?_
    have hP : va_P G vwCl [oX a (nI (qEye ey)), oTe a (nI (eEye ey)) le] H := by
      have ew : ([oX a (nI 0), oTe a (nI (ey + 1)) le] : va_W) = [oX a (nI (qEye ey)), oTe a (nI (eEye ey)) le] := (wvC (congrArg (fun zz => oX a zz) (show nI 0 = nI (qEye ey) from (congrArg nI (show 0 = (qEye ey) from by simp only [qEye, eEye, rEye]; first | (rw [if_pos (by omega)]) | (rw [if_neg (by omega)]; omega) | (rw [if_neg (by omega)]))))) (wvC (congrArg (fun zz => oTe a zz le) (show nI (ey + 1) = nI (eEye ey) from (congrArg nI (show (ey + 1) = (eEye ey) from by simp only [qEye, eEye, rEye]; first | (rw [if_pos (by omega)]) | (rw [if_neg (by omega)]; omega) | (rw [if_neg (by omega)]))))) rfl))
      rw [← ew]; exact hP
    exact W.iret (v := nI ey) hx hb hr (fun zt ht zw => ⟨⟨_, (), rfl, ((nI_o ey).trans (congrArg oI (show ey + 1 = (rEye ey) from by simp only [qEye, eEye, rEye]; first | (rw [if_pos (by omega)]) | (rw [if_neg (by omega)]; omega) | (rw [if_neg (by omega)])))), by show va_P _ _ _ zt.heap; rw [ht]; exact hP⟩, by rw [hAe]; exact hS.F ht⟩) hS.2.2 dX7_eye_29
  refine lv_aload_n hx hb dX7_eye_12 rfl (lv_at hl 0 rfl) ?_
  refine lv_iconst (v := nI 4) hx hb dX7_eye_13 (by decide) ?_
  refine crw_i (va_runV (As := [.int (nI 4)]) (rest := []) ⟨hx, hb, hml, hown, hts⟩ (c_X7_lack l G cI cJ (a := a) (oc := oc) (w := nI 4) ) (cwV 1 hts gX7_eye_X7_lack rfl rfl rfl (by decide +kernel) ⟨Nat.le_of_ble_eq_true rfl, Nat.le_of_ble_eq_true rfl⟩) (preV_rw (wc := [oX a oc]) hK hP hD [0] rfl rfl 7 0 rfl rfl rfl) rfl rfl hl.1 rfl (lv_room (Nat.le_of_ble_eq_true rfl)) dX7_eye_14 ⟨Nat.zero_le _, Nat.zero_le _⟩) hP hD hS [0] rfl [a 0] (fun u => rfl) rfl (fun r_14 u_ H locs hw_14 hP hD hS => ?_)
  have hP : va_P G vwCl [oX a (nI 4), oTe a (nI ey) le] H := hP
  have hD : va_D A [oX a (nI 4), oTe a (nI ey) le] := hD
  refine toi hw_14 ?_
  have hP : va_P G vwCl [oX a (nI (qEye ey)), oTe a (nI (eEye ey)) le] H := by
    have ew : ([oX a (nI 4), oTe a (nI ey) le] : va_W) = [oX a (nI (qEye ey)), oTe a (nI (eEye ey)) le] := (wvC (congrArg (fun zz => oX a zz) (show nI 4 = nI (qEye ey) from (congrArg nI (show 4 = (qEye ey) from by simp only [qEye, eEye, rEye]; first | (rw [if_pos (by omega)]) | (rw [if_neg (by omega)]; omega) | (rw [if_neg (by omega)]))))) (wvC (congrArg (fun zz => oTe a zz le) (show nI ey = nI (eEye ey) from (congrArg nI (show ey = (eEye ey) from by simp only [qEye, eEye, rEye]; first | (rw [if_pos (by omega)]) | (rw [if_neg (by omega)]; omega) | (rw [if_neg (by omega)]))))) rfl))
    rw [← ew]; exact hP
  exact W.iret (v := (-1)) hx hb hr (fun zt ht zw => ⟨⟨_, (), rfl, (m1_o.trans (congrArg oI (show 0 = (rEye ey) from by simp only [qEye, eEye, rEye]; first | (rw [if_pos (by omega)]) | (rw [if_neg (by omega)]; omega) | (rw [if_neg (by omega)])))), by show va_P _ _ _ zt.heap; rw [ht]; exact hP⟩, by rw [hAe]; exact hS.F ht⟩) hS.2.2 dX7_eye_17

set_option maxHeartbeats 400000 in
set_option maxRecDepth 100000 in
theorem c_X7_tell (l : Launch) (G : va_G) (cI cJ : ClassId) (a : Nat → Nat) (oc : Int32) (ey : Nat) (le : Int32) (t : Nat → Nat) (bd : Nat → Int32) (bs : Nat → Int32) (x : Int32) (d : Int32) (g : Int32) (k : Int32) (tb : TB t) (hT : TT t bd bs) (hz : TZ t ey) (hey : ey ≤ 8) : Met l yX7_tell wsX7_tell ({ frames := 4, cells := 0, slots := 0, locals := 93 }) (rwP G cI cJ [.ref (a 0), .int x, .int d, .int g, .int k] [oX a oc, oTe a (nI ey) le, aI cI (a 11) 1920 (oF t), aI cI (a 12) 64 bd, aI cI (a 13) 64 bs]) (rwQi G [oX a oc, oTe a (nI ey) le, aI cI (a 11) 1920 (oF t), aI cI (a 12) 64 bd, aI cI (a 13) 64 bs] (fun (r : Int32) (u : (Nat → Int32) × (Nat → Int32)) => match u with | (bd2, bs2) => r = bi (qTell ey x d g k = 0) ∧ TT (tTell t ey x d g k) bd2 bs2) (fun (u : (Nat → Int32) × (Nat → Int32)) => match u with | (bd2, bs2) => [oX a (nI (qTell ey x d g k)), oTe a (nI ey) le, aI cI (a 11) 1920 (oF (tTell t ey x d g k)), aI cI (a 12) 64 bd2, aI cI (a 13) 64 bs2])) 0 0 (ads [oX a oc, oTe a (nI ey) le, aI cI (a 11) 1920 (oF t), aI cI (a 12) 64 bd, aI cI (a 13) 64 bs]) := by
  refine Met.ofW (cc := cX7_tell) (maxL := 5) (ret := (some .boolean)) (by decide) rfl ?_
  intro pg ev s mt args below meth cd s₁ B hml hv
  obtain ⟨rfl, hP, hD0, hK⟩ := hv
  have hx := B.exec
  have hb := B.bytes
  have hr := B.returns
  have hts := atoms_spec (ws := wsX7_tell) B.pre
  have hown : s.vm.findClass RX7 = some mt.cls := findClass_of_methodNamed B.named
  have hlocks := B.notSynchronized
  have hD := ads_self hD0
  generalize hAe : ads [oX a oc, oTe a (nI ey) le, aI cI (a 11) 1920 (oF t), aI cI (a 12) 64 bd, aI cI (a 13) 64 bs] = A at hD ⊢
  have hS : va_S A s.heap s.heap [] := va_S.rf
  have hP : va_P G vwCl [oX a oc, oTe a (nI ey) le, aI cI (a 11) 1920 (oF t), aI cI (a 12) 64 bd, aI cI (a 13) 64 bs] s.heap := hP
  have hinX7 := (show ∀ w ∈ u_ws RX7 TX7 8, w ∈ wsX7_tell by decide +kernel)
  have fl19 := hts (.fieldLink RX7 19 "SpotRows" "tellings" "LSpotRows$Tellings;") (by decide +kernel)
  have hl := lv_entry ([.ref (a 0), .int x, .int d, .int g, .int k]) (n := 5) (Nat.le_of_ble_eq_true rfl)
  rw [lg_entry_eq]
  generalize (lg_sl ([.ref (a 0), .int x, .int d, .int g, .int k]) ++ List.replicate (5 - (lg_sl ([.ref (a 0), .int x, .int d, .int g, .int k])).length) Slot.unset).toArray = ls at hl ⊢
  have hl : lv_has ls 5 [(0, .ref (a 0)), (1, .int x), (2, .int d), (3, .int g), (4, .int k)] := hl
  refine lv_aload_n hx hb dX7_tell_0 rfl (lv_at hl 0 rfl) ?_
  refine lv_iload_n hx hb dX7_tell_1 rfl (lv_at hl 1 rfl) ?_
  refine cro_i (va_runV (As := [.int x]) (rest := []) ⟨hx, hb, hml, hown, hts⟩ (c_X7_isEye l G cI cJ (a := a) (oc := oc) (ey := ey) (le := le) (x := x) (hey := by first | assumption | omega)) (cwV 1 hts gX7_tell_X7_isEye rfl rfl rfl (by decide +kernel) ⟨Nat.le_of_ble_eq_true rfl, Nat.le_of_ble_eq_true rfl⟩) (preV_ro (wc := [oX a oc, oTe a (nI ey) le]) hK hP [0, 1] rfl 7 0 rfl rfl rfl) rfl rfl hl.1 rfl (lv_room (Nat.le_of_ble_eq_true rfl)) dX7_tell_2 ⟨Nat.zero_le _, Nat.zero_le _⟩) ?_
  refine nb_if_eq (tgt := 24) hx hb dX7_tell_5 (by decide) (fun c_5 => ?_) (fun c_5 => ?_)
  · refine lv_aload_n hx hb dX7_tell_24 rfl (lv_at hl 0 rfl) ?_
    refine lv_iconst (v := nI 1) hx hb dX7_tell_25 (by decide) ?_
    refine crw_i (va_runV (As := [.int (nI 1)]) (rest := []) ⟨hx, hb, hml, hown, hts⟩ (c_X7_refuse l G cI cJ (a := a) (oc := oc) (w := nI 1) ) (cwV 1 hts gX7_tell_X7_refuse rfl rfl rfl (by decide +kernel) ⟨Nat.le_of_ble_eq_true rfl, Nat.le_of_ble_eq_true rfl⟩) (preV_rw (wc := [oX a oc]) hK hP hD [0] rfl rfl 7 0 rfl rfl rfl) rfl rfl hl.1 rfl (lv_room (Nat.le_of_ble_eq_true rfl)) dX7_tell_26 ⟨Nat.zero_le _, Nat.zero_le _⟩) hP hD hS [0] rfl [a 0] (fun u => rfl) rfl (fun r_26 u_ H locs hw_26 hP hD hS => ?_)
    have hP : va_P G vwCl [oX a (nI 1), oTe a (nI ey) le, aI cI (a 11) 1920 (oF t), aI cI (a 12) 64 bd, aI cI (a 13) 64 bs] H := hP
    have hD : va_D A [oX a (nI 1), oTe a (nI ey) le, aI cI (a 11) 1920 (oF t), aI cI (a 12) 64 bd, aI cI (a 13) 64 bs] := hD
    refine toi hw_26 ?_
    have hP : va_P G vwCl [oX a (nI (qTell ey x d g k)), oTe a (nI ey) le, aI cI (a 11) 1920 (oF (tTell t ey x d g k)), aI cI (a 12) 64 bd, aI cI (a 13) 64 bs] H := by
      have ew : ([oX a (nI 1), oTe a (nI ey) le, aI cI (a 11) 1920 (oF t), aI cI (a 12) 64 bd, aI cI (a 13) 64 bs] : va_W) = [oX a (nI (qTell ey x d g k)), oTe a (nI ey) le, aI cI (a 11) 1920 (oF (tTell t ey x d g k)), aI cI (a 12) 64 bd, aI cI (a 13) 64 bs] := (wvC (congrArg (fun zz => oX a zz) (show nI 1 = nI (qTell ey x d g k) from (congrArg nI (show 1 = (qTell ey x d g k) from by first | rfl | (simp only [qTell, tTell, okTell, cif_T, cif_F, ctold, c_5]; done) | (simp [qTell, tTell, okTell, cif_T, cif_F, ctold, c_5]; done) | omega | (simp [qTell, tTell, okTell, cif_T, cif_F, ctold, c_5]; omega))))) (wvC rfl (wvC (congrArg (fun z => aI cI (a 11) 1920 (oF z)) (show t = tTell t ey x d g k from by first | rfl | (simp only [qTell, tTell, okTell, cif_T, cif_F, ctold, c_5]; done) | (simp [qTell, tTell, okTell, cif_T, cif_F, ctold, c_5]; done) | omega | (simp [qTell, tTell, okTell, cif_T, cif_F, ctold, c_5]; omega))) (wvC rfl (wvC rfl rfl)))))
      rw [← ew]; exact hP
    exact W.zret (v := nI 0) hx hb hr rfl (fun zt ht zw => ⟨⟨_, (bd, bs), rfl, ⟨(show nI 0 = bi (qTell ey x d g k = 0) from (bi_f (by first | rfl | (simp only [qTell, tTell, okTell, cif_T, cif_F, ctold, c_5]; done) | (simp [qTell, tTell, okTell, cif_T, cif_F, ctold, c_5]; done) | omega | (simp [qTell, tTell, okTell, cif_T, cif_F, ctold, c_5]; omega))).symm), (by first | (have ht2 : tTell t ey (nI j_x) (nI j_d) (nI j_g) (nI j_k) = upN t (j_x * 240 + j_d) (1000 * j_g + j_k + 1) := (by simp [cif_T, cif_F, ctold, tTell, okTell, c_5, c_12, c_21, e_x, e_d, e_g, e_k]); rw [ht2]; exact TT_put hT hz (by omega) hey (by omega)) | (have ht2 : tTell t ey (nI j_x) (nI j_d) g k = t := (by simp [cif_T, cif_F, ctold, tTell, okTell, c_5, c_12, c_21]); rw [ht2]; exact hT) | (have ht2 : tTell t ey (nI j_x) d g k = t := (by simp [cif_T, cif_F, ctold, tTell, okTell, c_5, c_12]); rw [ht2]; exact hT) | (have ht2 : tTell t ey x d g k = t := (by simp [cif_T, cif_F, ctold, tTell, okTell, c_5]); rw [ht2]; exact hT))⟩, by show va_P _ _ _ zt.heap; rw [ht]; exact hP⟩, by rw [hAe]; exact hS.F ht⟩) hS.2.2 dX7_tell_29
  obtain ⟨j_x, h_x, rfl⟩ := rg_ex c_5
  have e_x := nn_nI (j := j_x) (by omega)
  refine lv_iload_n hx hb dX7_tell_8 rfl (lv_at hl 2 rfl) ?_
  refine cro_i (va_runS (As := [.int d]) (rest := []) ⟨hx, hb, hml, hown, hts⟩ (c_X7_isDay l G cI cJ (x := d) ) (va_cwS 1 hts gX7_tell_X7_isDay rfl rfl rfl (by decide +kernel) ⟨Nat.le_of_ble_eq_true rfl, Nat.le_of_ble_eq_true rfl⟩) (preS_ro (wc := []) hK hP [] rfl) rfl rfl hl.1 rfl (lv_room (Nat.le_of_ble_eq_true rfl)) dX7_tell_9 ⟨Nat.zero_le _, Nat.zero_le _⟩) ?_
  refine nb_if_eq (tgt := 24) hx hb dX7_tell_12 (by decide) (fun c_12 => ?_) (fun c_12 => ?_)
  · refine lv_aload_n hx hb dX7_tell_24 rfl (lv_at hl 0 rfl) ?_
    refine lv_iconst (v := nI 1) hx hb dX7_tell_25 (by decide) ?_
    refine crw_i (va_runV (As := [.int (nI 1)]) (rest := []) ⟨hx, hb, hml, hown, hts⟩ (c_X7_refuse l G cI cJ (a := a) (oc := oc) (w := nI 1) ) (cwV 1 hts gX7_tell_X7_refuse rfl rfl rfl (by decide +kernel) ⟨Nat.le_of_ble_eq_true rfl, Nat.le_of_ble_eq_true rfl⟩) (preV_rw (wc := [oX a oc]) hK hP hD [0] rfl rfl 7 0 rfl rfl rfl) rfl rfl hl.1 rfl (lv_room (Nat.le_of_ble_eq_true rfl)) dX7_tell_26 ⟨Nat.zero_le _, Nat.zero_le _⟩) hP hD hS [0] rfl [a 0] (fun u => rfl) rfl (fun r_26 u_ H locs hw_26 hP hD hS => ?_)
    have hP : va_P G vwCl [oX a (nI 1), oTe a (nI ey) le, aI cI (a 11) 1920 (oF t), aI cI (a 12) 64 bd, aI cI (a 13) 64 bs] H := hP
    have hD : va_D A [oX a (nI 1), oTe a (nI ey) le, aI cI (a 11) 1920 (oF t), aI cI (a 12) 64 bd, aI cI (a 13) 64 bs] := hD
    refine toi hw_26 ?_
    have hP : va_P G vwCl [oX a (nI (qTell ey (nI j_x) d g k)), oTe a (nI ey) le, aI cI (a 11) 1920 (oF (tTell t ey (nI j_x) d g k)), aI cI (a 12) 64 bd, aI cI (a 13) 64 bs] H := by
      have ew : ([oX a (nI 1), oTe a (nI ey) le, aI cI (a 11) 1920 (oF t), aI cI (a 12) 64 bd, aI cI (a 13) 64 bs] : va_W) = [oX a (nI (qTell ey (nI j_x) d g k)), oTe a (nI ey) le, aI cI (a 11) 1920 (oF (tTell t ey (nI j_x) d g k)), aI cI (a 12) 64 bd, aI cI (a 13) 64 bs] := (wvC (congrArg (fun zz => oX a zz) (show nI 1 = nI (qTell ey (nI j_x) d g k) from (congrArg nI (show 1 = (qTell ey (nI j_x) d g k) from by first | rfl | (simp only [qTell, tTell, okTell, cif_T, cif_F, ctold, c_5, e_x, c_12]; done) | (simp [qTell, tTell, okTell, cif_T, cif_F, ctold, c_5, e_x, c_12]; done) | omega | (simp [qTell, tTell, okTell, cif_T, cif_F, ctold, c_5, e_x, c_12]; omega))))) (wvC rfl (wvC (congrArg (fun z => aI cI (a 11) 1920 (oF z)) (show t = tTell t ey (nI j_x) d g k from by first | rfl | (simp only [qTell, tTell, okTell, cif_T, cif_F, ctold, c_5, e_x, c_12]; done) | (simp [qTell, tTell, okTell, cif_T, cif_F, ctold, c_5, e_x, c_12]; done) | omega | (simp [qTell, tTell, okTell, cif_T, cif_F, ctold, c_5, e_x, c_12]; omega))) (wvC rfl (wvC rfl rfl)))))
      rw [← ew]; exact hP
    exact W.zret (v := nI 0) hx hb hr rfl (fun zt ht zw => ⟨⟨_, (bd, bs), rfl, ⟨(show nI 0 = bi (qTell ey (nI j_x) d g k = 0) from (bi_f (by first | rfl | (simp only [qTell, tTell, okTell, cif_T, cif_F, ctold, c_5, e_x, c_12]; done) | (simp [qTell, tTell, okTell, cif_T, cif_F, ctold, c_5, e_x, c_12]; done) | omega | (simp [qTell, tTell, okTell, cif_T, cif_F, ctold, c_5, e_x, c_12]; omega))).symm), (by first | (have ht2 : tTell t ey (nI j_x) (nI j_d) (nI j_g) (nI j_k) = upN t (j_x * 240 + j_d) (1000 * j_g + j_k + 1) := (by simp [cif_T, cif_F, ctold, tTell, okTell, c_5, c_12, c_21, e_x, e_d, e_g, e_k]); rw [ht2]; exact TT_put hT hz (by omega) hey (by omega)) | (have ht2 : tTell t ey (nI j_x) (nI j_d) g k = t := (by simp [cif_T, cif_F, ctold, tTell, okTell, c_5, c_12, c_21]); rw [ht2]; exact hT) | (have ht2 : tTell t ey (nI j_x) d g k = t := (by simp [cif_T, cif_F, ctold, tTell, okTell, c_5, c_12]); rw [ht2]; exact hT) | (have ht2 : tTell t ey x d g k = t := (by simp [cif_T, cif_F, ctold, tTell, okTell, c_5]); rw [ht2]; exact hT))⟩, by show va_P _ _ _ zt.heap; rw [ht]; exact hP⟩, by rw [hAe]; exact hS.F ht⟩) hS.2.2 dX7_tell_29
  obtain ⟨j_d, h_d, rfl⟩ := rg_ex c_12
  have e_d := nn_nI (j := j_d) (by omega)
  refine lv_iload_n hx hb dX7_tell_15 rfl (lv_at hl 3 rfl) ?_
  refine lv_iload hx hb dX7_tell_16 (lv_at hl 4 rfl) ?_
  refine cro_i (va_runS (As := [.int g, .int k]) (rest := []) ⟨hx, hb, hml, hown, hts⟩ (c_X5_canBeTold l G cI cJ (g := g) (k := k) ) (va_cwS 2 hts gX7_tell_X5_canBeTold rfl rfl rfl (by decide +kernel) ⟨Nat.le_of_ble_eq_true rfl, Nat.le_of_ble_eq_true rfl⟩) (preS_ro (wc := []) hK hP [] rfl) rfl rfl hl.1 rfl (lv_room (Nat.le_of_ble_eq_true rfl)) dX7_tell_18 ⟨Nat.zero_le _, Nat.zero_le _⟩) ?_
  refine nb_if_ne (tgt := 30) hx hb dX7_tell_21 (by decide) (fun c_21 => ?_) (fun c_21 => ?_)
  · obtain ⟨j_g, h_g, rfl⟩ := rg_ex c_21.1
    have e_g := nn_nI (j := j_g) (by omega)
    obtain ⟨j_k, h_k, rfl⟩ := rg_ex c_21.2.1
    have e_k := nn_nI (j := j_k) (by omega)
    have hct := (ctold_nI (g := j_g) (k := j_k) (by omega) (by omega)).mp c_21
    refine lv_aload_n hx hb dX7_tell_30 rfl (lv_at hl 0 rfl) ?_
    refine va_get (D := G) (own := RX7) (ref := "SpotRows") (ci := 7) (v := .ref (a 2)) (C := RX7) (T := TX7) (N := 8) hx hb hts hinX7 hown hK.1 hP 0 rfl rfl 1 (by decide) fl19 (fun _ h9 => h9) rfl dX7_tell_31 ?_
    refine lv_iload_n hx hb dX7_tell_34 rfl (lv_at hl 1 rfl) ?_
    refine lv_iload_n hx hb dX7_tell_35 rfl (lv_at hl 2 rfl) ?_
    refine lv_sipush (v := nI 1000) hx hb dX7_tell_36 (by decide) ?_
    refine lv_iload_n hx hb dX7_tell_39 rfl (lv_at hl 3 rfl) ?_
    refine lv_imul hx hb dX7_tell_40 ?_
    refine toi (pk_mul 1000 j_g) ?_
    refine lv_iload hx hb dX7_tell_41 (lv_at hl 4 rfl) ?_
    refine lv_iadd hx hb dX7_tell_43 ?_
    refine toi (nI_add (1000 * j_g) j_k) ?_
    refine toi (show nI (1000 * j_g + j_k) = oI (1000 * j_g + j_k + 1) from nI_o _) ?_
    refine crw_v (free := fun _ => True) (va_runV (As := [.int (nI j_x), .int (nI j_d), .int (oI (1000 * j_g + j_k + 1))]) (rest := []) ⟨hx, hb, hml, hown, hts⟩ (c_X5_put l G cI cJ (a := a) (ey := ey) (le := le) (t := t) (e := j_x) (d := j_d) (u := 1000 * j_g + j_k + 1) (bd := bd) (bs := bs) (tb := by first | assumption | omega) (tb2 := TB_put tb (Or.inr (by omega))) (he := by first | assumption | omega) (hd := by first | assumption | omega) (hey := by first | assumption | omega)) (cwV 3 hts gX7_tell_X5_put rfl rfl rfl (by decide +kernel) ⟨Nat.le_of_ble_eq_true rfl, Nat.le_of_ble_eq_true rfl⟩) (preV_rw (wc := [oTe a (nI ey) le, aI cI (a 11) 1920 (oF t), aI cI (a 12) 64 bd, aI cI (a 13) 64 bs]) hK hP hD [1, 2, 3, 4] rfl rfl 5 1 rfl rfl rfl) rfl rfl hl.1 rfl (lv_room (Nat.le_of_ble_eq_true rfl)) dX7_tell_44 ⟨Nat.zero_le _, Nat.zero_le _⟩) hP hD hS [1, 2, 3, 4] rfl [a 2, a 11, a 12, a 13] (fun u => rfl) rfl (fun u_ H locs hw_44 hP hD hS => ?_)
    have hP : va_P G vwCl [oX a oc, oTe a (nI ey) le, aI cI (a 11) 1920 (oF (upN t (j_x * 240 + j_d) (1000 * j_g + j_k + 1))), aI cI (a 12) 64 (cInD (upN t (j_x * 240 + j_d) (1000 * j_g + j_k + 1)) j_x j_d (nI 1) ey (cInD t j_x j_d (-1) ey bd)), aI cI (a 13) 64 (cInS (upN t (j_x * 240 + j_d) (1000 * j_g + j_k + 1)) j_x j_d (nI 1) ey (cInS t j_x j_d (-1) ey bs))] H := hP
    have hD : va_D A [oX a oc, oTe a (nI ey) le, aI cI (a 11) 1920 (oF (upN t (j_x * 240 + j_d) (1000 * j_g + j_k + 1))), aI cI (a 12) 64 (cInD (upN t (j_x * 240 + j_d) (1000 * j_g + j_k + 1)) j_x j_d (nI 1) ey (cInD t j_x j_d (-1) ey bd)), aI cI (a 13) 64 (cInS (upN t (j_x * 240 + j_d) (1000 * j_g + j_k + 1)) j_x j_d (nI 1) ey (cInS t j_x j_d (-1) ey bs))] := hD
    refine lv_aload_n hx hb dX7_tell_47 rfl (lv_at hl 0 rfl) ?_
    refine crw_i (va_runV (As := []) (rest := []) ⟨hx, hb, hml, hown, hts⟩ (c_X7_agree l G cI cJ (a := a) (oc := oc) ) (cwV 0 hts gX7_tell_X7_agree rfl rfl rfl (by decide +kernel) ⟨Nat.le_of_ble_eq_true rfl, Nat.le_of_ble_eq_true rfl⟩) (preV_rw (wc := [oX a oc]) hK hP hD [0] rfl rfl 7 0 rfl rfl rfl) rfl rfl hl.1 rfl (lv_room (Nat.le_of_ble_eq_true rfl)) dX7_tell_48 ⟨Nat.zero_le _, Nat.zero_le _⟩) hP hD hS [0] rfl [a 0] (fun u => rfl) rfl (fun r_48 u_ H locs hw_48 hP hD hS => ?_)
    have hP : va_P G vwCl [oX a (nI 0), oTe a (nI ey) le, aI cI (a 11) 1920 (oF (upN t (j_x * 240 + j_d) (1000 * j_g + j_k + 1))), aI cI (a 12) 64 (cInD (upN t (j_x * 240 + j_d) (1000 * j_g + j_k + 1)) j_x j_d (nI 1) ey (cInD t j_x j_d (-1) ey bd)), aI cI (a 13) 64 (cInS (upN t (j_x * 240 + j_d) (1000 * j_g + j_k + 1)) j_x j_d (nI 1) ey (cInS t j_x j_d (-1) ey bs))] H := hP
    have hD : va_D A [oX a (nI 0), oTe a (nI ey) le, aI cI (a 11) 1920 (oF (upN t (j_x * 240 + j_d) (1000 * j_g + j_k + 1))), aI cI (a 12) 64 (cInD (upN t (j_x * 240 + j_d) (1000 * j_g + j_k + 1)) j_x j_d (nI 1) ey (cInD t j_x j_d (-1) ey bd)), aI cI (a 13) 64 (cInS (upN t (j_x * 240 + j_d) (1000 * j_g + j_k + 1)) j_x j_d (nI 1) ey (cInS t j_x j_d (-1) ey bs))] := hD
    refine toi hw_48 ?_
    have hP : va_P G vwCl [oX a (nI (qTell ey (nI j_x) (nI j_d) (nI j_g) (nI j_k))), oTe a (nI ey) le, aI cI (a 11) 1920 (oF (tTell t ey (nI j_x) (nI j_d) (nI j_g) (nI j_k))), aI cI (a 12) 64 (cInD (upN t (j_x * 240 + j_d) (1000 * j_g + j_k + 1)) j_x j_d (nI 1) ey (cInD t j_x j_d (-1) ey bd)), aI cI (a 13) 64 (cInS (upN t (j_x * 240 + j_d) (1000 * j_g + j_k + 1)) j_x j_d (nI 1) ey (cInS t j_x j_d (-1) ey bs))] H := by
      have ew : ([oX a (nI 0), oTe a (nI ey) le, aI cI (a 11) 1920 (oF (upN t (j_x * 240 + j_d) (1000 * j_g + j_k + 1))), aI cI (a 12) 64 (cInD (upN t (j_x * 240 + j_d) (1000 * j_g + j_k + 1)) j_x j_d (nI 1) ey (cInD t j_x j_d (-1) ey bd)), aI cI (a 13) 64 (cInS (upN t (j_x * 240 + j_d) (1000 * j_g + j_k + 1)) j_x j_d (nI 1) ey (cInS t j_x j_d (-1) ey bs))] : va_W) = [oX a (nI (qTell ey (nI j_x) (nI j_d) (nI j_g) (nI j_k))), oTe a (nI ey) le, aI cI (a 11) 1920 (oF (tTell t ey (nI j_x) (nI j_d) (nI j_g) (nI j_k))), aI cI (a 12) 64 (cInD (upN t (j_x * 240 + j_d) (1000 * j_g + j_k + 1)) j_x j_d (nI 1) ey (cInD t j_x j_d (-1) ey bd)), aI cI (a 13) 64 (cInS (upN t (j_x * 240 + j_d) (1000 * j_g + j_k + 1)) j_x j_d (nI 1) ey (cInS t j_x j_d (-1) ey bs))] := (wvC (congrArg (fun zz => oX a zz) (show nI 0 = nI (qTell ey (nI j_x) (nI j_d) (nI j_g) (nI j_k)) from (congrArg nI (show 0 = (qTell ey (nI j_x) (nI j_d) (nI j_g) (nI j_k)) from by first | rfl | (simp only [qTell, tTell, okTell, cif_T, cif_F, ctold, c_5, e_x, c_12, e_d, c_21, e_g, e_k]; done) | (simp [qTell, tTell, okTell, cif_T, cif_F, ctold, c_5, e_x, c_12, e_d, c_21, e_g, e_k]; done) | omega | (simp [qTell, tTell, okTell, cif_T, cif_F, ctold, c_5, e_x, c_12, e_d, c_21, e_g, e_k]; omega))))) (wvC rfl (wvC (congrArg (fun z => aI cI (a 11) 1920 (oF z)) (show upN t (j_x * 240 + j_d) (1000 * j_g + j_k + 1) = tTell t ey (nI j_x) (nI j_d) (nI j_g) (nI j_k) from by first | rfl | (simp only [qTell, tTell, okTell, cif_T, cif_F, ctold, c_5, e_x, c_12, e_d, c_21, e_g, e_k]; done) | (simp [qTell, tTell, okTell, cif_T, cif_F, ctold, c_5, e_x, c_12, e_d, c_21, e_g, e_k]; done) | omega | (simp [qTell, tTell, okTell, cif_T, cif_F, ctold, c_5, e_x, c_12, e_d, c_21, e_g, e_k]; omega))) (wvC rfl (wvC rfl rfl)))))
      rw [← ew]; exact hP
    exact W.zret (v := nI 1) hx hb hr rfl (fun zt ht zw => ⟨⟨_, (cInD (upN t (j_x * 240 + j_d) (1000 * j_g + j_k + 1)) j_x j_d (nI 1) ey (cInD t j_x j_d (-1) ey bd), cInS (upN t (j_x * 240 + j_d) (1000 * j_g + j_k + 1)) j_x j_d (nI 1) ey (cInS t j_x j_d (-1) ey bs)), rfl, ⟨(show nI 1 = bi (qTell ey (nI j_x) (nI j_d) (nI j_g) (nI j_k) = 0) from (bi_t (by first | rfl | (simp only [qTell, tTell, okTell, cif_T, cif_F, ctold, c_5, e_x, c_12, e_d, c_21, e_g, e_k]; done) | (simp [qTell, tTell, okTell, cif_T, cif_F, ctold, c_5, e_x, c_12, e_d, c_21, e_g, e_k]; done) | omega | (simp [qTell, tTell, okTell, cif_T, cif_F, ctold, c_5, e_x, c_12, e_d, c_21, e_g, e_k]; omega))).symm), (by first | (have ht2 : tTell t ey (nI j_x) (nI j_d) (nI j_g) (nI j_k) = upN t (j_x * 240 + j_d) (1000 * j_g + j_k + 1) := (by simp [cif_T, cif_F, ctold, tTell, okTell, c_5, c_12, c_21, e_x, e_d, e_g, e_k]); rw [ht2]; exact TT_put hT hz (by omega) hey (by omega)) | (have ht2 : tTell t ey (nI j_x) (nI j_d) g k = t := (by simp [cif_T, cif_F, ctold, tTell, okTell, c_5, c_12, c_21]); rw [ht2]; exact hT) | (have ht2 : tTell t ey (nI j_x) d g k = t := (by simp [cif_T, cif_F, ctold, tTell, okTell, c_5, c_12]); rw [ht2]; exact hT) | (have ht2 : tTell t ey x d g k = t := (by simp [cif_T, cif_F, ctold, tTell, okTell, c_5]); rw [ht2]; exact hT))⟩, by show va_P _ _ _ zt.heap; rw [ht]; exact hP⟩, by rw [hAe]; exact hS.F ht⟩) hS.2.2 dX7_tell_51
  refine lv_aload_n hx hb dX7_tell_24 rfl (lv_at hl 0 rfl) ?_
  refine lv_iconst (v := nI 1) hx hb dX7_tell_25 (by decide) ?_
  refine crw_i (va_runV (As := [.int (nI 1)]) (rest := []) ⟨hx, hb, hml, hown, hts⟩ (c_X7_refuse l G cI cJ (a := a) (oc := oc) (w := nI 1) ) (cwV 1 hts gX7_tell_X7_refuse rfl rfl rfl (by decide +kernel) ⟨Nat.le_of_ble_eq_true rfl, Nat.le_of_ble_eq_true rfl⟩) (preV_rw (wc := [oX a oc]) hK hP hD [0] rfl rfl 7 0 rfl rfl rfl) rfl rfl hl.1 rfl (lv_room (Nat.le_of_ble_eq_true rfl)) dX7_tell_26 ⟨Nat.zero_le _, Nat.zero_le _⟩) hP hD hS [0] rfl [a 0] (fun u => rfl) rfl (fun r_26 u_ H locs hw_26 hP hD hS => ?_)
  have hP : va_P G vwCl [oX a (nI 1), oTe a (nI ey) le, aI cI (a 11) 1920 (oF t), aI cI (a 12) 64 bd, aI cI (a 13) 64 bs] H := hP
  have hD : va_D A [oX a (nI 1), oTe a (nI ey) le, aI cI (a 11) 1920 (oF t), aI cI (a 12) 64 bd, aI cI (a 13) 64 bs] := hD
  refine toi hw_26 ?_
  have hP : va_P G vwCl [oX a (nI (qTell ey (nI j_x) (nI j_d) g k)), oTe a (nI ey) le, aI cI (a 11) 1920 (oF (tTell t ey (nI j_x) (nI j_d) g k)), aI cI (a 12) 64 bd, aI cI (a 13) 64 bs] H := by
    have ew : ([oX a (nI 1), oTe a (nI ey) le, aI cI (a 11) 1920 (oF t), aI cI (a 12) 64 bd, aI cI (a 13) 64 bs] : va_W) = [oX a (nI (qTell ey (nI j_x) (nI j_d) g k)), oTe a (nI ey) le, aI cI (a 11) 1920 (oF (tTell t ey (nI j_x) (nI j_d) g k)), aI cI (a 12) 64 bd, aI cI (a 13) 64 bs] := (wvC (congrArg (fun zz => oX a zz) (show nI 1 = nI (qTell ey (nI j_x) (nI j_d) g k) from (congrArg nI (show 1 = (qTell ey (nI j_x) (nI j_d) g k) from by first | rfl | (simp only [qTell, tTell, okTell, cif_T, cif_F, ctold, c_5, e_x, c_12, e_d, c_21]; done) | (simp [qTell, tTell, okTell, cif_T, cif_F, ctold, c_5, e_x, c_12, e_d, c_21]; done) | omega | (simp [qTell, tTell, okTell, cif_T, cif_F, ctold, c_5, e_x, c_12, e_d, c_21]; omega))))) (wvC rfl (wvC (congrArg (fun z => aI cI (a 11) 1920 (oF z)) (show t = tTell t ey (nI j_x) (nI j_d) g k from by first | rfl | (simp only [qTell, tTell, okTell, cif_T, cif_F, ctold, c_5, e_x, c_12, e_d, c_21]; done) | (simp [qTell, tTell, okTell, cif_T, cif_F, ctold, c_5, e_x, c_12, e_d, c_21]; done) | omega | (simp [qTell, tTell, okTell, cif_T, cif_F, ctold, c_5, e_x, c_12, e_d, c_21]; omega))) (wvC rfl (wvC rfl rfl)))))
    rw [← ew]; exact hP
  exact W.zret (v := nI 0) hx hb hr rfl (fun zt ht zw => ⟨⟨_, (bd, bs), rfl, ⟨(show nI 0 = bi (qTell ey (nI j_x) (nI j_d) g k = 0) from (bi_f (by first | rfl | (simp only [qTell, tTell, okTell, cif_T, cif_F, ctold, c_5, e_x, c_12, e_d, c_21]; done) | (simp [qTell, tTell, okTell, cif_T, cif_F, ctold, c_5, e_x, c_12, e_d, c_21]; done) | omega | (simp [qTell, tTell, okTell, cif_T, cif_F, ctold, c_5, e_x, c_12, e_d, c_21]; omega))).symm), (by first | (have ht2 : tTell t ey (nI j_x) (nI j_d) (nI j_g) (nI j_k) = upN t (j_x * 240 + j_d) (1000 * j_g + j_k + 1) := (by simp [cif_T, cif_F, ctold, tTell, okTell, c_5, c_12, c_21, e_x, e_d, e_g, e_k]); rw [ht2]; exact TT_put hT hz (by omega) hey (by omega)) | (have ht2 : tTell t ey (nI j_x) (nI j_d) g k = t := (by simp [cif_T, cif_F, ctold, tTell, okTell, c_5, c_12, c_21]); rw [ht2]; exact hT) | (have ht2 : tTell t ey (nI j_x) d g k = t := (by simp [cif_T, cif_F, ctold, tTell, okTell, c_5, c_12]); rw [ht2]; exact hT) | (have ht2 : tTell t ey x d g k = t := (by simp [cif_T, cif_F, ctold, tTell, okTell, c_5]); rw [ht2]; exact hT))⟩, by show va_P _ _ _ zt.heap; rw [ht]; exact hP⟩, by rw [hAe]; exact hS.F ht⟩) hS.2.2 dX7_tell_29

set_option maxHeartbeats 400000 in
set_option maxRecDepth 100000 in
theorem c_X7_unsay (l : Launch) (G : va_G) (cI cJ : ClassId) (a : Nat → Nat) (oc : Int32) (ey : Nat) (le : Int32) (t : Nat → Nat) (bd : Nat → Int32) (bs : Nat → Int32) (x : Int32) (d : Int32) (tb : TB t) (hT : TT t bd bs) (hz : TZ t ey) (hey : ey ≤ 8) : Met l yX7_unsay wsX7_unsay ({ frames := 4, cells := 0, slots := 0, locals := 93 }) (rwP G cI cJ [.ref (a 0), .int x, .int d] [oX a oc, oTe a (nI ey) le, aI cI (a 11) 1920 (oF t), aI cI (a 12) 64 bd, aI cI (a 13) 64 bs]) (rwQi G [oX a oc, oTe a (nI ey) le, aI cI (a 11) 1920 (oF t), aI cI (a 12) 64 bd, aI cI (a 13) 64 bs] (fun (r : Int32) (u : (Nat → Int32) × (Nat → Int32)) => match u with | (bd2, bs2) => r = bi (qUnsay t ey x d = 0) ∧ TT (tUnsay t ey x d) bd2 bs2) (fun (u : (Nat → Int32) × (Nat → Int32)) => match u with | (bd2, bs2) => [oX a (nI (qUnsay t ey x d)), oTe a (nI ey) le, aI cI (a 11) 1920 (oF (tUnsay t ey x d)), aI cI (a 12) 64 bd2, aI cI (a 13) 64 bs2])) 0 0 (ads [oX a oc, oTe a (nI ey) le, aI cI (a 11) 1920 (oF t), aI cI (a 12) 64 bd, aI cI (a 13) 64 bs]) := by
  refine Met.ofW (cc := cX7_unsay) (maxL := 3) (ret := (some .boolean)) (by decide) rfl ?_
  intro pg ev s mt args below meth cd s₁ B hml hv
  obtain ⟨rfl, hP, hD0, hK⟩ := hv
  have hx := B.exec
  have hb := B.bytes
  have hr := B.returns
  have hts := atoms_spec (ws := wsX7_unsay) B.pre
  have hown : s.vm.findClass RX7 = some mt.cls := findClass_of_methodNamed B.named
  have hlocks := B.notSynchronized
  have hD := ads_self hD0
  generalize hAe : ads [oX a oc, oTe a (nI ey) le, aI cI (a 11) 1920 (oF t), aI cI (a 12) 64 bd, aI cI (a 13) 64 bs] = A at hD ⊢
  have hS : va_S A s.heap s.heap [] := va_S.rf
  have hP : va_P G vwCl [oX a oc, oTe a (nI ey) le, aI cI (a 11) 1920 (oF t), aI cI (a 12) 64 bd, aI cI (a 13) 64 bs] s.heap := hP
  have hinX7 := (show ∀ w ∈ u_ws RX7 TX7 8, w ∈ wsX7_unsay by decide +kernel)
  have fl19 := hts (.fieldLink RX7 19 "SpotRows" "tellings" "LSpotRows$Tellings;") (by decide +kernel)
  have hl := lv_entry ([.ref (a 0), .int x, .int d]) (n := 3) (Nat.le_of_ble_eq_true rfl)
  rw [lg_entry_eq]
  generalize (lg_sl ([.ref (a 0), .int x, .int d]) ++ List.replicate (3 - (lg_sl ([.ref (a 0), .int x, .int d])).length) Slot.unset).toArray = ls at hl ⊢
  have hl : lv_has ls 3 [(0, .ref (a 0)), (1, .int x), (2, .int d)] := hl
  refine lv_aload_n hx hb dX7_unsay_0 rfl (lv_at hl 0 rfl) ?_
  refine lv_iload_n hx hb dX7_unsay_1 rfl (lv_at hl 1 rfl) ?_
  refine cro_i (va_runV (As := [.int x]) (rest := []) ⟨hx, hb, hml, hown, hts⟩ (c_X7_isEye l G cI cJ (a := a) (oc := oc) (ey := ey) (le := le) (x := x) (hey := by first | assumption | omega)) (cwV 1 hts gX7_unsay_X7_isEye rfl rfl rfl (by decide +kernel) ⟨Nat.le_of_ble_eq_true rfl, Nat.le_of_ble_eq_true rfl⟩) (preV_ro (wc := [oX a oc, oTe a (nI ey) le]) hK hP [0, 1] rfl 7 0 rfl rfl rfl) rfl rfl hl.1 rfl (lv_room (Nat.le_of_ble_eq_true rfl)) dX7_unsay_2 ⟨Nat.zero_le _, Nat.zero_le _⟩) ?_
  refine nb_if_eq (tgt := 15) hx hb dX7_unsay_5 (by decide) (fun c_5 => ?_) (fun c_5 => ?_)
  · refine lv_aload_n hx hb dX7_unsay_15 rfl (lv_at hl 0 rfl) ?_
    refine lv_iconst (v := nI 1) hx hb dX7_unsay_16 (by decide) ?_
    refine crw_i (va_runV (As := [.int (nI 1)]) (rest := []) ⟨hx, hb, hml, hown, hts⟩ (c_X7_refuse l G cI cJ (a := a) (oc := oc) (w := nI 1) ) (cwV 1 hts gX7_unsay_X7_refuse rfl rfl rfl (by decide +kernel) ⟨Nat.le_of_ble_eq_true rfl, Nat.le_of_ble_eq_true rfl⟩) (preV_rw (wc := [oX a oc]) hK hP hD [0] rfl rfl 7 0 rfl rfl rfl) rfl rfl hl.1 rfl (lv_room (Nat.le_of_ble_eq_true rfl)) dX7_unsay_17 ⟨Nat.zero_le _, Nat.zero_le _⟩) hP hD hS [0] rfl [a 0] (fun u => rfl) rfl (fun r_17 u_ H locs hw_17 hP hD hS => ?_)
    have hP : va_P G vwCl [oX a (nI 1), oTe a (nI ey) le, aI cI (a 11) 1920 (oF t), aI cI (a 12) 64 bd, aI cI (a 13) 64 bs] H := hP
    have hD : va_D A [oX a (nI 1), oTe a (nI ey) le, aI cI (a 11) 1920 (oF t), aI cI (a 12) 64 bd, aI cI (a 13) 64 bs] := hD
    refine toi hw_17 ?_
    have hP : va_P G vwCl [oX a (nI (qUnsay t ey x d)), oTe a (nI ey) le, aI cI (a 11) 1920 (oF (tUnsay t ey x d)), aI cI (a 12) 64 bd, aI cI (a 13) 64 bs] H := by
      have ew : ([oX a (nI 1), oTe a (nI ey) le, aI cI (a 11) 1920 (oF t), aI cI (a 12) 64 bd, aI cI (a 13) 64 bs] : va_W) = [oX a (nI (qUnsay t ey x d)), oTe a (nI ey) le, aI cI (a 11) 1920 (oF (tUnsay t ey x d)), aI cI (a 12) 64 bd, aI cI (a 13) 64 bs] := (wvC (congrArg (fun zz => oX a zz) (show nI 1 = nI (qUnsay t ey x d) from (congrArg nI (show 1 = (qUnsay t ey x d) from by first | rfl | (simp only [qUnsay, tUnsay, cif_T, cif_F, ctold, c_5]; done) | (simp [qUnsay, tUnsay, cif_T, cif_F, ctold, c_5]; done) | omega | (simp [qUnsay, tUnsay, cif_T, cif_F, ctold, c_5]; omega))))) (wvC rfl (wvC (congrArg (fun z => aI cI (a 11) 1920 (oF z)) (show t = tUnsay t ey x d from by first | rfl | (simp only [qUnsay, tUnsay, cif_T, cif_F, ctold, c_5]; done) | (simp [qUnsay, tUnsay, cif_T, cif_F, ctold, c_5]; done) | omega | (simp [qUnsay, tUnsay, cif_T, cif_F, ctold, c_5]; omega))) (wvC rfl (wvC rfl rfl)))))
      rw [← ew]; exact hP
    exact W.zret (v := nI 0) hx hb hr rfl (fun zt ht zw => ⟨⟨_, (bd, bs), rfl, ⟨(show nI 0 = bi (qUnsay t ey x d = 0) from (bi_f (by first | rfl | (simp only [qUnsay, tUnsay, cif_T, cif_F, ctold, c_5]; done) | (simp [qUnsay, tUnsay, cif_T, cif_F, ctold, c_5]; done) | omega | (simp [qUnsay, tUnsay, cif_T, cif_F, ctold, c_5]; omega))).symm), (by first | (have ht2 : tUnsay t ey (nI j_x) (nI j_d) = upN t (j_x * 240 + j_d) 0 := (by simp [cif_T, cif_F, tUnsay, qUnsay, c_5, c_12, c_30, e_x, e_d]); rw [ht2]; exact TT_put hT hz (by omega) hey (by omega)) | (have ht2 : tUnsay t ey (nI j_x) (nI j_d) = t := (by simp [cif_T, cif_F, tUnsay, qUnsay, c_5, c_12, c_30, e_x, e_d]); rw [ht2]; exact hT) | (have ht2 : tUnsay t ey (nI j_x) d = t := (by simp [cif_T, cif_F, tUnsay, qUnsay, c_5, c_12]); rw [ht2]; exact hT) | (have ht2 : tUnsay t ey x d = t := (by simp [cif_T, cif_F, tUnsay, qUnsay, c_5]); rw [ht2]; exact hT))⟩, by show va_P _ _ _ zt.heap; rw [ht]; exact hP⟩, by rw [hAe]; exact hS.F ht⟩) hS.2.2 dX7_unsay_20
  obtain ⟨j_x, h_x, rfl⟩ := rg_ex c_5
  have e_x := nn_nI (j := j_x) (by omega)
  refine lv_iload_n hx hb dX7_unsay_8 rfl (lv_at hl 2 rfl) ?_
  refine cro_i (va_runS (As := [.int d]) (rest := []) ⟨hx, hb, hml, hown, hts⟩ (c_X7_isDay l G cI cJ (x := d) ) (va_cwS 1 hts gX7_unsay_X7_isDay rfl rfl rfl (by decide +kernel) ⟨Nat.le_of_ble_eq_true rfl, Nat.le_of_ble_eq_true rfl⟩) (preS_ro (wc := []) hK hP [] rfl) rfl rfl hl.1 rfl (lv_room (Nat.le_of_ble_eq_true rfl)) dX7_unsay_9 ⟨Nat.zero_le _, Nat.zero_le _⟩) ?_
  refine nb_if_ne (tgt := 21) hx hb dX7_unsay_12 (by decide) (fun c_12 => ?_) (fun c_12 => ?_)
  · obtain ⟨j_d, h_d, rfl⟩ := rg_ex c_12
    have e_d := nn_nI (j := j_d) (by omega)
    refine lv_aload_n hx hb dX7_unsay_21 rfl (lv_at hl 0 rfl) ?_
    refine va_get (D := G) (own := RX7) (ref := "SpotRows") (ci := 7) (v := .ref (a 2)) (C := RX7) (T := TX7) (N := 8) hx hb hts hinX7 hown hK.1 hP 0 rfl rfl 1 (by decide) fl19 (fun _ h9 => h9) rfl dX7_unsay_22 ?_
    refine lv_iload_n hx hb dX7_unsay_25 rfl (lv_at hl 1 rfl) ?_
    refine lv_iload_n hx hb dX7_unsay_26 rfl (lv_at hl 2 rfl) ?_
    refine cro_i (va_runV (As := [.int (nI j_x), .int (nI j_d)]) (rest := []) ⟨hx, hb, hml, hown, hts⟩ (c_X5_has l G cI cJ (a := a) (ey := nI ey) (le := le) (t := t) (e := j_x) (d := j_d) (tb := by first | assumption | omega) (he := by first | assumption | omega) (hd := by first | assumption | omega)) (cwV 2 hts gX7_unsay_X5_has rfl rfl rfl (by decide +kernel) ⟨Nat.le_of_ble_eq_true rfl, Nat.le_of_ble_eq_true rfl⟩) (preV_ro (wc := [oTe a (nI ey) le, aI cI (a 11) 1920 (oF t)]) hK hP [1, 2] rfl 5 1 rfl rfl rfl) rfl rfl hl.1 rfl (lv_room (Nat.le_of_ble_eq_true rfl)) dX7_unsay_27 ⟨Nat.zero_le _, Nat.zero_le _⟩) ?_
    refine nb_if_ne (tgt := 39) hx hb dX7_unsay_30 (by decide) (fun c_30 => ?_) (fun c_30 => ?_)
    · refine lv_aload_n hx hb dX7_unsay_39 rfl (lv_at hl 0 rfl) ?_
      refine va_get (D := G) (own := RX7) (ref := "SpotRows") (ci := 7) (v := .ref (a 2)) (C := RX7) (T := TX7) (N := 8) hx hb hts hinX7 hown hK.1 hP 0 rfl rfl 1 (by decide) fl19 (fun _ h9 => h9) rfl dX7_unsay_40 ?_
      refine lv_iload_n hx hb dX7_unsay_43 rfl (lv_at hl 1 rfl) ?_
      refine lv_iload_n hx hb dX7_unsay_44 rfl (lv_at hl 2 rfl) ?_
      refine lv_iconst (v := (-1)) hx hb dX7_unsay_45 (by decide) ?_
      refine crw_v (free := fun _ => True) (va_runV (As := [.int (nI j_x), .int (nI j_d), .int (-1)]) (rest := []) ⟨hx, hb, hml, hown, hts⟩ (c_X5_put l G cI cJ (a := a) (ey := ey) (le := le) (t := t) (e := j_x) (d := j_d) (u := 0) (bd := bd) (bs := bs) (tb := by first | assumption | omega) (tb2 := TB_put tb (Or.inl rfl)) (he := by first | assumption | omega) (hd := by first | assumption | omega) (hey := by first | assumption | omega)) (cwV 3 hts gX7_unsay_X5_put rfl rfl rfl (by decide +kernel) ⟨Nat.le_of_ble_eq_true rfl, Nat.le_of_ble_eq_true rfl⟩) (preV_rw (wc := [oTe a (nI ey) le, aI cI (a 11) 1920 (oF t), aI cI (a 12) 64 bd, aI cI (a 13) 64 bs]) hK hP hD [1, 2, 3, 4] rfl rfl 5 1 rfl rfl rfl) rfl rfl hl.1 rfl (lv_room (Nat.le_of_ble_eq_true rfl)) dX7_unsay_46 ⟨Nat.zero_le _, Nat.zero_le _⟩) hP hD hS [1, 2, 3, 4] rfl [a 2, a 11, a 12, a 13] (fun u => rfl) rfl (fun u_ H locs hw_46 hP hD hS => ?_)
      have hP : va_P G vwCl [oX a oc, oTe a (nI ey) le, aI cI (a 11) 1920 (oF (upN t (j_x * 240 + j_d) 0)), aI cI (a 12) 64 (cInD (upN t (j_x * 240 + j_d) 0) j_x j_d (nI 1) ey (cInD t j_x j_d (-1) ey bd)), aI cI (a 13) 64 (cInS (upN t (j_x * 240 + j_d) 0) j_x j_d (nI 1) ey (cInS t j_x j_d (-1) ey bs))] H := hP
      have hD : va_D A [oX a oc, oTe a (nI ey) le, aI cI (a 11) 1920 (oF (upN t (j_x * 240 + j_d) 0)), aI cI (a 12) 64 (cInD (upN t (j_x * 240 + j_d) 0) j_x j_d (nI 1) ey (cInD t j_x j_d (-1) ey bd)), aI cI (a 13) 64 (cInS (upN t (j_x * 240 + j_d) 0) j_x j_d (nI 1) ey (cInS t j_x j_d (-1) ey bs))] := hD
      refine lv_aload_n hx hb dX7_unsay_49 rfl (lv_at hl 0 rfl) ?_
      refine crw_i (va_runV (As := []) (rest := []) ⟨hx, hb, hml, hown, hts⟩ (c_X7_agree l G cI cJ (a := a) (oc := oc) ) (cwV 0 hts gX7_unsay_X7_agree rfl rfl rfl (by decide +kernel) ⟨Nat.le_of_ble_eq_true rfl, Nat.le_of_ble_eq_true rfl⟩) (preV_rw (wc := [oX a oc]) hK hP hD [0] rfl rfl 7 0 rfl rfl rfl) rfl rfl hl.1 rfl (lv_room (Nat.le_of_ble_eq_true rfl)) dX7_unsay_50 ⟨Nat.zero_le _, Nat.zero_le _⟩) hP hD hS [0] rfl [a 0] (fun u => rfl) rfl (fun r_50 u_ H locs hw_50 hP hD hS => ?_)
      have hP : va_P G vwCl [oX a (nI 0), oTe a (nI ey) le, aI cI (a 11) 1920 (oF (upN t (j_x * 240 + j_d) 0)), aI cI (a 12) 64 (cInD (upN t (j_x * 240 + j_d) 0) j_x j_d (nI 1) ey (cInD t j_x j_d (-1) ey bd)), aI cI (a 13) 64 (cInS (upN t (j_x * 240 + j_d) 0) j_x j_d (nI 1) ey (cInS t j_x j_d (-1) ey bs))] H := hP
      have hD : va_D A [oX a (nI 0), oTe a (nI ey) le, aI cI (a 11) 1920 (oF (upN t (j_x * 240 + j_d) 0)), aI cI (a 12) 64 (cInD (upN t (j_x * 240 + j_d) 0) j_x j_d (nI 1) ey (cInD t j_x j_d (-1) ey bd)), aI cI (a 13) 64 (cInS (upN t (j_x * 240 + j_d) 0) j_x j_d (nI 1) ey (cInS t j_x j_d (-1) ey bs))] := hD
      refine toi hw_50 ?_
      have hP : va_P G vwCl [oX a (nI (qUnsay t ey (nI j_x) (nI j_d))), oTe a (nI ey) le, aI cI (a 11) 1920 (oF (tUnsay t ey (nI j_x) (nI j_d))), aI cI (a 12) 64 (cInD (upN t (j_x * 240 + j_d) 0) j_x j_d (nI 1) ey (cInD t j_x j_d (-1) ey bd)), aI cI (a 13) 64 (cInS (upN t (j_x * 240 + j_d) 0) j_x j_d (nI 1) ey (cInS t j_x j_d (-1) ey bs))] H := by
        have ew : ([oX a (nI 0), oTe a (nI ey) le, aI cI (a 11) 1920 (oF (upN t (j_x * 240 + j_d) 0)), aI cI (a 12) 64 (cInD (upN t (j_x * 240 + j_d) 0) j_x j_d (nI 1) ey (cInD t j_x j_d (-1) ey bd)), aI cI (a 13) 64 (cInS (upN t (j_x * 240 + j_d) 0) j_x j_d (nI 1) ey (cInS t j_x j_d (-1) ey bs))] : va_W) = [oX a (nI (qUnsay t ey (nI j_x) (nI j_d))), oTe a (nI ey) le, aI cI (a 11) 1920 (oF (tUnsay t ey (nI j_x) (nI j_d))), aI cI (a 12) 64 (cInD (upN t (j_x * 240 + j_d) 0) j_x j_d (nI 1) ey (cInD t j_x j_d (-1) ey bd)), aI cI (a 13) 64 (cInS (upN t (j_x * 240 + j_d) 0) j_x j_d (nI 1) ey (cInS t j_x j_d (-1) ey bs))] := (wvC (congrArg (fun zz => oX a zz) (show nI 0 = nI (qUnsay t ey (nI j_x) (nI j_d)) from (congrArg nI (show 0 = (qUnsay t ey (nI j_x) (nI j_d)) from by first | rfl | (simp only [qUnsay, tUnsay, cif_T, cif_F, ctold, c_5, e_x, c_12, e_d, c_30]; done) | (simp [qUnsay, tUnsay, cif_T, cif_F, ctold, c_5, e_x, c_12, e_d, c_30]; done) | omega | (simp [qUnsay, tUnsay, cif_T, cif_F, ctold, c_5, e_x, c_12, e_d, c_30]; omega))))) (wvC rfl (wvC (congrArg (fun z => aI cI (a 11) 1920 (oF z)) (show upN t (j_x * 240 + j_d) 0 = tUnsay t ey (nI j_x) (nI j_d) from by first | rfl | (simp only [qUnsay, tUnsay, cif_T, cif_F, ctold, c_5, e_x, c_12, e_d, c_30]; done) | (simp [qUnsay, tUnsay, cif_T, cif_F, ctold, c_5, e_x, c_12, e_d, c_30]; done) | omega | (simp [qUnsay, tUnsay, cif_T, cif_F, ctold, c_5, e_x, c_12, e_d, c_30]; omega))) (wvC rfl (wvC rfl rfl)))))
        rw [← ew]; exact hP
      exact W.zret (v := nI 1) hx hb hr rfl (fun zt ht zw => ⟨⟨_, (cInD (upN t (j_x * 240 + j_d) 0) j_x j_d (nI 1) ey (cInD t j_x j_d (-1) ey bd), cInS (upN t (j_x * 240 + j_d) 0) j_x j_d (nI 1) ey (cInS t j_x j_d (-1) ey bs)), rfl, ⟨(show nI 1 = bi (qUnsay t ey (nI j_x) (nI j_d) = 0) from (bi_t (by first | rfl | (simp only [qUnsay, tUnsay, cif_T, cif_F, ctold, c_5, e_x, c_12, e_d, c_30]; done) | (simp [qUnsay, tUnsay, cif_T, cif_F, ctold, c_5, e_x, c_12, e_d, c_30]; done) | omega | (simp [qUnsay, tUnsay, cif_T, cif_F, ctold, c_5, e_x, c_12, e_d, c_30]; omega))).symm), (by first | (have ht2 : tUnsay t ey (nI j_x) (nI j_d) = upN t (j_x * 240 + j_d) 0 := (by simp [cif_T, cif_F, tUnsay, qUnsay, c_5, c_12, c_30, e_x, e_d]); rw [ht2]; exact TT_put hT hz (by omega) hey (by omega)) | (have ht2 : tUnsay t ey (nI j_x) (nI j_d) = t := (by simp [cif_T, cif_F, tUnsay, qUnsay, c_5, c_12, c_30, e_x, e_d]); rw [ht2]; exact hT) | (have ht2 : tUnsay t ey (nI j_x) d = t := (by simp [cif_T, cif_F, tUnsay, qUnsay, c_5, c_12]); rw [ht2]; exact hT) | (have ht2 : tUnsay t ey x d = t := (by simp [cif_T, cif_F, tUnsay, qUnsay, c_5]); rw [ht2]; exact hT))⟩, by show va_P _ _ _ zt.heap; rw [ht]; exact hP⟩, by rw [hAe]; exact hS.F ht⟩) hS.2.2 dX7_unsay_53
    refine lv_aload_n hx hb dX7_unsay_33 rfl (lv_at hl 0 rfl) ?_
    refine lv_iconst (v := nI 5) hx hb dX7_unsay_34 (by decide) ?_
    refine crw_i (va_runV (As := [.int (nI 5)]) (rest := []) ⟨hx, hb, hml, hown, hts⟩ (c_X7_refuse l G cI cJ (a := a) (oc := oc) (w := nI 5) ) (cwV 1 hts gX7_unsay_X7_refuse rfl rfl rfl (by decide +kernel) ⟨Nat.le_of_ble_eq_true rfl, Nat.le_of_ble_eq_true rfl⟩) (preV_rw (wc := [oX a oc]) hK hP hD [0] rfl rfl 7 0 rfl rfl rfl) rfl rfl hl.1 rfl (lv_room (Nat.le_of_ble_eq_true rfl)) dX7_unsay_35 ⟨Nat.zero_le _, Nat.zero_le _⟩) hP hD hS [0] rfl [a 0] (fun u => rfl) rfl (fun r_35 u_ H locs hw_35 hP hD hS => ?_)
    have hP : va_P G vwCl [oX a (nI 5), oTe a (nI ey) le, aI cI (a 11) 1920 (oF t), aI cI (a 12) 64 bd, aI cI (a 13) 64 bs] H := hP
    have hD : va_D A [oX a (nI 5), oTe a (nI ey) le, aI cI (a 11) 1920 (oF t), aI cI (a 12) 64 bd, aI cI (a 13) 64 bs] := hD
    refine toi hw_35 ?_
    have hP : va_P G vwCl [oX a (nI (qUnsay t ey (nI j_x) (nI j_d))), oTe a (nI ey) le, aI cI (a 11) 1920 (oF (tUnsay t ey (nI j_x) (nI j_d))), aI cI (a 12) 64 bd, aI cI (a 13) 64 bs] H := by
      have ew : ([oX a (nI 5), oTe a (nI ey) le, aI cI (a 11) 1920 (oF t), aI cI (a 12) 64 bd, aI cI (a 13) 64 bs] : va_W) = [oX a (nI (qUnsay t ey (nI j_x) (nI j_d))), oTe a (nI ey) le, aI cI (a 11) 1920 (oF (tUnsay t ey (nI j_x) (nI j_d))), aI cI (a 12) 64 bd, aI cI (a 13) 64 bs] := (wvC (congrArg (fun zz => oX a zz) (show nI 5 = nI (qUnsay t ey (nI j_x) (nI j_d)) from (congrArg nI (show 5 = (qUnsay t ey (nI j_x) (nI j_d)) from by first | rfl | (simp only [qUnsay, tUnsay, cif_T, cif_F, ctold, c_5, e_x, c_12, e_d, c_30]; done) | (simp [qUnsay, tUnsay, cif_T, cif_F, ctold, c_5, e_x, c_12, e_d, c_30]; done) | omega | (simp [qUnsay, tUnsay, cif_T, cif_F, ctold, c_5, e_x, c_12, e_d, c_30]; omega))))) (wvC rfl (wvC (congrArg (fun z => aI cI (a 11) 1920 (oF z)) (show t = tUnsay t ey (nI j_x) (nI j_d) from by first | rfl | (simp only [qUnsay, tUnsay, cif_T, cif_F, ctold, c_5, e_x, c_12, e_d, c_30]; done) | (simp [qUnsay, tUnsay, cif_T, cif_F, ctold, c_5, e_x, c_12, e_d, c_30]; done) | omega | (simp [qUnsay, tUnsay, cif_T, cif_F, ctold, c_5, e_x, c_12, e_d, c_30]; omega))) (wvC rfl (wvC rfl rfl)))))
      rw [← ew]; exact hP
    exact W.zret (v := nI 0) hx hb hr rfl (fun zt ht zw => ⟨⟨_, (bd, bs), rfl, ⟨(show nI 0 = bi (qUnsay t ey (nI j_x) (nI j_d) = 0) from (bi_f (by first | rfl | (simp only [qUnsay, tUnsay, cif_T, cif_F, ctold, c_5, e_x, c_12, e_d, c_30]; done) | (simp [qUnsay, tUnsay, cif_T, cif_F, ctold, c_5, e_x, c_12, e_d, c_30]; done) | omega | (simp [qUnsay, tUnsay, cif_T, cif_F, ctold, c_5, e_x, c_12, e_d, c_30]; omega))).symm), (by first | (have ht2 : tUnsay t ey (nI j_x) (nI j_d) = upN t (j_x * 240 + j_d) 0 := (by simp [cif_T, cif_F, tUnsay, qUnsay, c_5, c_12, c_30, e_x, e_d]); rw [ht2]; exact TT_put hT hz (by omega) hey (by omega)) | (have ht2 : tUnsay t ey (nI j_x) (nI j_d) = t := (by simp [cif_T, cif_F, tUnsay, qUnsay, c_5, c_12, c_30, e_x, e_d]); rw [ht2]; exact hT) | (have ht2 : tUnsay t ey (nI j_x) d = t := (by simp [cif_T, cif_F, tUnsay, qUnsay, c_5, c_12]); rw [ht2]; exact hT) | (have ht2 : tUnsay t ey x d = t := (by simp [cif_T, cif_F, tUnsay, qUnsay, c_5]); rw [ht2]; exact hT))⟩, by show va_P _ _ _ zt.heap; rw [ht]; exact hP⟩, by rw [hAe]; exact hS.F ht⟩) hS.2.2 dX7_unsay_38
  refine lv_aload_n hx hb dX7_unsay_15 rfl (lv_at hl 0 rfl) ?_
  refine lv_iconst (v := nI 1) hx hb dX7_unsay_16 (by decide) ?_
  refine crw_i (va_runV (As := [.int (nI 1)]) (rest := []) ⟨hx, hb, hml, hown, hts⟩ (c_X7_refuse l G cI cJ (a := a) (oc := oc) (w := nI 1) ) (cwV 1 hts gX7_unsay_X7_refuse rfl rfl rfl (by decide +kernel) ⟨Nat.le_of_ble_eq_true rfl, Nat.le_of_ble_eq_true rfl⟩) (preV_rw (wc := [oX a oc]) hK hP hD [0] rfl rfl 7 0 rfl rfl rfl) rfl rfl hl.1 rfl (lv_room (Nat.le_of_ble_eq_true rfl)) dX7_unsay_17 ⟨Nat.zero_le _, Nat.zero_le _⟩) hP hD hS [0] rfl [a 0] (fun u => rfl) rfl (fun r_17 u_ H locs hw_17 hP hD hS => ?_)
  have hP : va_P G vwCl [oX a (nI 1), oTe a (nI ey) le, aI cI (a 11) 1920 (oF t), aI cI (a 12) 64 bd, aI cI (a 13) 64 bs] H := hP
  have hD : va_D A [oX a (nI 1), oTe a (nI ey) le, aI cI (a 11) 1920 (oF t), aI cI (a 12) 64 bd, aI cI (a 13) 64 bs] := hD
  refine toi hw_17 ?_
  have hP : va_P G vwCl [oX a (nI (qUnsay t ey (nI j_x) d)), oTe a (nI ey) le, aI cI (a 11) 1920 (oF (tUnsay t ey (nI j_x) d)), aI cI (a 12) 64 bd, aI cI (a 13) 64 bs] H := by
    have ew : ([oX a (nI 1), oTe a (nI ey) le, aI cI (a 11) 1920 (oF t), aI cI (a 12) 64 bd, aI cI (a 13) 64 bs] : va_W) = [oX a (nI (qUnsay t ey (nI j_x) d)), oTe a (nI ey) le, aI cI (a 11) 1920 (oF (tUnsay t ey (nI j_x) d)), aI cI (a 12) 64 bd, aI cI (a 13) 64 bs] := (wvC (congrArg (fun zz => oX a zz) (show nI 1 = nI (qUnsay t ey (nI j_x) d) from (congrArg nI (show 1 = (qUnsay t ey (nI j_x) d) from by first | rfl | (simp only [qUnsay, tUnsay, cif_T, cif_F, ctold, c_5, e_x, c_12]; done) | (simp [qUnsay, tUnsay, cif_T, cif_F, ctold, c_5, e_x, c_12]; done) | omega | (simp [qUnsay, tUnsay, cif_T, cif_F, ctold, c_5, e_x, c_12]; omega))))) (wvC rfl (wvC (congrArg (fun z => aI cI (a 11) 1920 (oF z)) (show t = tUnsay t ey (nI j_x) d from by first | rfl | (simp only [qUnsay, tUnsay, cif_T, cif_F, ctold, c_5, e_x, c_12]; done) | (simp [qUnsay, tUnsay, cif_T, cif_F, ctold, c_5, e_x, c_12]; done) | omega | (simp [qUnsay, tUnsay, cif_T, cif_F, ctold, c_5, e_x, c_12]; omega))) (wvC rfl (wvC rfl rfl)))))
    rw [← ew]; exact hP
  exact W.zret (v := nI 0) hx hb hr rfl (fun zt ht zw => ⟨⟨_, (bd, bs), rfl, ⟨(show nI 0 = bi (qUnsay t ey (nI j_x) d = 0) from (bi_f (by first | rfl | (simp only [qUnsay, tUnsay, cif_T, cif_F, ctold, c_5, e_x, c_12]; done) | (simp [qUnsay, tUnsay, cif_T, cif_F, ctold, c_5, e_x, c_12]; done) | omega | (simp [qUnsay, tUnsay, cif_T, cif_F, ctold, c_5, e_x, c_12]; omega))).symm), (by first | (have ht2 : tUnsay t ey (nI j_x) (nI j_d) = upN t (j_x * 240 + j_d) 0 := (by simp [cif_T, cif_F, tUnsay, qUnsay, c_5, c_12, c_30, e_x, e_d]); rw [ht2]; exact TT_put hT hz (by omega) hey (by omega)) | (have ht2 : tUnsay t ey (nI j_x) (nI j_d) = t := (by simp [cif_T, cif_F, tUnsay, qUnsay, c_5, c_12, c_30, e_x, e_d]); rw [ht2]; exact hT) | (have ht2 : tUnsay t ey (nI j_x) d = t := (by simp [cif_T, cif_F, tUnsay, qUnsay, c_5, c_12]); rw [ht2]; exact hT) | (have ht2 : tUnsay t ey x d = t := (by simp [cif_T, cif_F, tUnsay, qUnsay, c_5]); rw [ht2]; exact hT))⟩, by show va_P _ _ _ zt.heap; rw [ht]; exact hP⟩, by rw [hAe]; exact hS.F ht⟩) hS.2.2 dX7_unsay_20

set_option maxHeartbeats 400000 in
set_option maxRecDepth 100000 in
theorem c_X7_told (l : Launch) (G : va_G) (cI cJ : ClassId) (a : Nat → Nat) (oc : Int32) (ey : Nat) (le : Int32) (t : Nat → Nat) (x : Int32) (d : Int32) (w : Int32) (tb : TB t) (hey : ey ≤ 8) : Met l yX7_told wsX7_told ({ frames := 2, cells := 0, slots := 0, locals := 44 }) (rwP G cI cJ [.ref (a 0), .int x, .int d, .int w] [oX a oc, oTe a (nI ey) le, aI cI (a 11) 1920 (oF t)]) (rwQi G [oX a oc, oTe a (nI ey) le, aI cI (a 11) 1920 (oF t)] (fun (r : Int32) (_ : Unit) => r = oI (rTold t ey x d w)) (fun (_ : Unit) => [oX a (nI (qTold t ey x d w)), oTe a (nI ey) le, aI cI (a 11) 1920 (oF t)])) 0 0 (ads [oX a oc, oTe a (nI ey) le, aI cI (a 11) 1920 (oF t)]) := by
  refine Met.ofW (cc := cX7_told) (maxL := 4) (ret := (some .int)) (by decide) rfl ?_
  intro pg ev s mt args below meth cd s₁ B hml hv
  obtain ⟨rfl, hP, hD0, hK⟩ := hv
  have hx := B.exec
  have hb := B.bytes
  have hr := B.returns
  have hts := atoms_spec (ws := wsX7_told) B.pre
  have hown : s.vm.findClass RX7 = some mt.cls := findClass_of_methodNamed B.named
  have hlocks := B.notSynchronized
  have hD := ads_self hD0
  generalize hAe : ads [oX a oc, oTe a (nI ey) le, aI cI (a 11) 1920 (oF t)] = A at hD ⊢
  have hS : va_S A s.heap s.heap [] := va_S.rf
  have hP : va_P G vwCl [oX a oc, oTe a (nI ey) le, aI cI (a 11) 1920 (oF t)] s.heap := hP
  have hinX7 := (show ∀ w ∈ u_ws RX7 TX7 8, w ∈ wsX7_told by decide +kernel)
  have fl19 := hts (.fieldLink RX7 19 "SpotRows" "tellings" "LSpotRows$Tellings;") (by decide +kernel)
  have hl := lv_entry ([.ref (a 0), .int x, .int d, .int w]) (n := 4) (Nat.le_of_ble_eq_true rfl)
  rw [lg_entry_eq]
  generalize (lg_sl ([.ref (a 0), .int x, .int d, .int w]) ++ List.replicate (4 - (lg_sl ([.ref (a 0), .int x, .int d, .int w])).length) Slot.unset).toArray = ls at hl ⊢
  have hl : lv_has ls 4 [(0, .ref (a 0)), (1, .int x), (2, .int d), (3, .int w)] := hl
  refine lv_aload_n hx hb dX7_told_0 rfl (lv_at hl 0 rfl) ?_
  refine lv_iload_n hx hb dX7_told_1 rfl (lv_at hl 1 rfl) ?_
  refine cro_i (va_runV (As := [.int x]) (rest := []) ⟨hx, hb, hml, hown, hts⟩ (c_X7_isEye l G cI cJ (a := a) (oc := oc) (ey := ey) (le := le) (x := x) (hey := by first | assumption | omega)) (cwV 1 hts gX7_told_X7_isEye rfl rfl rfl (by decide +kernel) ⟨Nat.le_of_ble_eq_true rfl, Nat.le_of_ble_eq_true rfl⟩) (preV_ro (wc := [oX a oc, oTe a (nI ey) le]) hK hP [0, 1] rfl 7 0 rfl rfl rfl) rfl rfl hl.1 rfl (lv_room (Nat.le_of_ble_eq_true rfl)) dX7_told_2 ⟨Nat.zero_le _, Nat.zero_le _⟩) ?_
  refine nb_if_eq (tgt := 23) hx hb dX7_told_5 (by decide) (fun c_5 => ?_) (fun c_5 => ?_)
  · refine lv_aload_n hx hb dX7_told_23 rfl (lv_at hl 0 rfl) ?_
    refine lv_iconst (v := nI 1) hx hb dX7_told_24 (by decide) ?_
    refine crw_i (va_runV (As := [.int (nI 1)]) (rest := []) ⟨hx, hb, hml, hown, hts⟩ (c_X7_lack l G cI cJ (a := a) (oc := oc) (w := nI 1) ) (cwV 1 hts gX7_told_X7_lack rfl rfl rfl (by decide +kernel) ⟨Nat.le_of_ble_eq_true rfl, Nat.le_of_ble_eq_true rfl⟩) (preV_rw (wc := [oX a oc]) hK hP hD [0] rfl rfl 7 0 rfl rfl rfl) rfl rfl hl.1 rfl (lv_room (Nat.le_of_ble_eq_true rfl)) dX7_told_25 ⟨Nat.zero_le _, Nat.zero_le _⟩) hP hD hS [0] rfl [a 0] (fun u => rfl) rfl (fun r_25 u_ H locs hw_25 hP hD hS => ?_)
    have hP : va_P G vwCl [oX a (nI 1), oTe a (nI ey) le, aI cI (a 11) 1920 (oF t)] H := hP
    have hD : va_D A [oX a (nI 1), oTe a (nI ey) le, aI cI (a 11) 1920 (oF t)] := hD
    refine toi hw_25 ?_
    have hP : va_P G vwCl [oX a (nI (qTold t ey x d w)), oTe a (nI ey) le, aI cI (a 11) 1920 (oF t)] H := by
      have ew : ([oX a (nI 1), oTe a (nI ey) le, aI cI (a 11) 1920 (oF t)] : va_W) = [oX a (nI (qTold t ey x d w)), oTe a (nI ey) le, aI cI (a 11) 1920 (oF t)] := (wvC (congrArg (fun zz => oX a zz) (show nI 1 = nI (qTold t ey x d w) from (congrArg nI (show 1 = (qTold t ey x d w) from by first | rfl | (simp only [rTold, qTold, cif_T, cif_F, ctold, c_5]; done) | (simp [rTold, qTold, cif_T, cif_F, ctold, c_5]; done) | omega | (simp [rTold, qTold, cif_T, cif_F, ctold, c_5]; omega))))) (wvC rfl (wvC rfl rfl)))
      rw [← ew]; exact hP
    exact W.iret (v := (-1)) hx hb hr (fun zt ht zw => ⟨⟨_, (), rfl, (m1_o.trans (congrArg oI (show 0 = (rTold t ey x d w) from by first | rfl | (simp only [rTold, qTold, cif_T, cif_F, ctold, c_5]; done) | (simp [rTold, qTold, cif_T, cif_F, ctold, c_5]; done) | omega | (simp [rTold, qTold, cif_T, cif_F, ctold, c_5]; omega)))), by show va_P _ _ _ zt.heap; rw [ht]; exact hP⟩, by rw [hAe]; exact hS.F ht⟩) hS.2.2 dX7_told_28
  obtain ⟨j_x, h_x, rfl⟩ := rg_ex c_5
  have e_x := nn_nI (j := j_x) (by omega)
  refine lv_iload_n hx hb dX7_told_8 rfl (lv_at hl 2 rfl) ?_
  refine cro_i (va_runS (As := [.int d]) (rest := []) ⟨hx, hb, hml, hown, hts⟩ (c_X7_isDay l G cI cJ (x := d) ) (va_cwS 1 hts gX7_told_X7_isDay rfl rfl rfl (by decide +kernel) ⟨Nat.le_of_ble_eq_true rfl, Nat.le_of_ble_eq_true rfl⟩) (preS_ro (wc := []) hK hP [] rfl) rfl rfl hl.1 rfl (lv_room (Nat.le_of_ble_eq_true rfl)) dX7_told_9 ⟨Nat.zero_le _, Nat.zero_le _⟩) ?_
  refine nb_if_eq (tgt := 23) hx hb dX7_told_12 (by decide) (fun c_12 => ?_) (fun c_12 => ?_)
  · refine lv_aload_n hx hb dX7_told_23 rfl (lv_at hl 0 rfl) ?_
    refine lv_iconst (v := nI 1) hx hb dX7_told_24 (by decide) ?_
    refine crw_i (va_runV (As := [.int (nI 1)]) (rest := []) ⟨hx, hb, hml, hown, hts⟩ (c_X7_lack l G cI cJ (a := a) (oc := oc) (w := nI 1) ) (cwV 1 hts gX7_told_X7_lack rfl rfl rfl (by decide +kernel) ⟨Nat.le_of_ble_eq_true rfl, Nat.le_of_ble_eq_true rfl⟩) (preV_rw (wc := [oX a oc]) hK hP hD [0] rfl rfl 7 0 rfl rfl rfl) rfl rfl hl.1 rfl (lv_room (Nat.le_of_ble_eq_true rfl)) dX7_told_25 ⟨Nat.zero_le _, Nat.zero_le _⟩) hP hD hS [0] rfl [a 0] (fun u => rfl) rfl (fun r_25 u_ H locs hw_25 hP hD hS => ?_)
    have hP : va_P G vwCl [oX a (nI 1), oTe a (nI ey) le, aI cI (a 11) 1920 (oF t)] H := hP
    have hD : va_D A [oX a (nI 1), oTe a (nI ey) le, aI cI (a 11) 1920 (oF t)] := hD
    refine toi hw_25 ?_
    have hP : va_P G vwCl [oX a (nI (qTold t ey (nI j_x) d w)), oTe a (nI ey) le, aI cI (a 11) 1920 (oF t)] H := by
      have ew : ([oX a (nI 1), oTe a (nI ey) le, aI cI (a 11) 1920 (oF t)] : va_W) = [oX a (nI (qTold t ey (nI j_x) d w)), oTe a (nI ey) le, aI cI (a 11) 1920 (oF t)] := (wvC (congrArg (fun zz => oX a zz) (show nI 1 = nI (qTold t ey (nI j_x) d w) from (congrArg nI (show 1 = (qTold t ey (nI j_x) d w) from by first | rfl | (simp only [rTold, qTold, cif_T, cif_F, ctold, c_5, e_x, c_12]; done) | (simp [rTold, qTold, cif_T, cif_F, ctold, c_5, e_x, c_12]; done) | omega | (simp [rTold, qTold, cif_T, cif_F, ctold, c_5, e_x, c_12]; omega))))) (wvC rfl (wvC rfl rfl)))
      rw [← ew]; exact hP
    exact W.iret (v := (-1)) hx hb hr (fun zt ht zw => ⟨⟨_, (), rfl, (m1_o.trans (congrArg oI (show 0 = (rTold t ey (nI j_x) d w) from by first | rfl | (simp only [rTold, qTold, cif_T, cif_F, ctold, c_5, e_x, c_12]; done) | (simp [rTold, qTold, cif_T, cif_F, ctold, c_5, e_x, c_12]; done) | omega | (simp [rTold, qTold, cif_T, cif_F, ctold, c_5, e_x, c_12]; omega)))), by show va_P _ _ _ zt.heap; rw [ht]; exact hP⟩, by rw [hAe]; exact hS.F ht⟩) hS.2.2 dX7_told_28
  obtain ⟨j_d, h_d, rfl⟩ := rg_ex c_12
  have e_d := nn_nI (j := j_d) (by omega)
  refine lv_iload_n hx hb dX7_told_15 rfl (lv_at hl 3 rfl) ?_
  refine lv_iconst (v := nI 2) hx hb dX7_told_16 (by decide) ?_
  refine cro_i (va_runS (As := [.int w, .int (nI 2)]) (rest := []) ⟨hx, hb, hml, hown, hts⟩ (c_X7_isWithin l G cI cJ (x := w) (k := 2) (hk := by first | assumption | omega)) (va_cwS 2 hts gX7_told_X7_isWithin rfl rfl rfl (by decide +kernel) ⟨Nat.le_of_ble_eq_true rfl, Nat.le_of_ble_eq_true rfl⟩) (preS_ro (wc := []) hK hP [] rfl) rfl rfl hl.1 rfl (lv_room (Nat.le_of_ble_eq_true rfl)) dX7_told_17 ⟨Nat.zero_le _, Nat.zero_le _⟩) ?_
  refine nb_if_ne (tgt := 29) hx hb dX7_told_20 (by decide) (fun c_20 => ?_) (fun c_20 => ?_)
  · obtain ⟨j_w, h_w, rfl⟩ := rg_ex c_20
    have e_w := nn_nI (j := j_w) (by omega)
    refine lv_aload_n hx hb dX7_told_29 rfl (lv_at hl 0 rfl) ?_
    refine va_get (D := G) (own := RX7) (ref := "SpotRows") (ci := 7) (v := .ref (a 2)) (C := RX7) (T := TX7) (N := 8) hx hb hts hinX7 hown hK.1 hP 0 rfl rfl 1 (by decide) fl19 (fun _ h9 => h9) rfl dX7_told_30 ?_
    refine lv_iload_n hx hb dX7_told_33 rfl (lv_at hl 1 rfl) ?_
    refine lv_iload_n hx hb dX7_told_34 rfl (lv_at hl 2 rfl) ?_
    refine cro_i (va_runV (As := [.int (nI j_x), .int (nI j_d)]) (rest := []) ⟨hx, hb, hml, hown, hts⟩ (c_X5_has l G cI cJ (a := a) (ey := nI ey) (le := le) (t := t) (e := j_x) (d := j_d) (tb := by first | assumption | omega) (he := by first | assumption | omega) (hd := by first | assumption | omega)) (cwV 2 hts gX7_told_X5_has rfl rfl rfl (by decide +kernel) ⟨Nat.le_of_ble_eq_true rfl, Nat.le_of_ble_eq_true rfl⟩) (preV_ro (wc := [oTe a (nI ey) le, aI cI (a 11) 1920 (oF t)]) hK hP [1, 2] rfl 5 1 rfl rfl rfl) rfl rfl hl.1 rfl (lv_room (Nat.le_of_ble_eq_true rfl)) dX7_told_35 ⟨Nat.zero_le _, Nat.zero_le _⟩) ?_
    refine nb_if_ne (tgt := 47) hx hb dX7_told_38 (by decide) (fun c_38 => ?_) (fun c_38 => ?_)
    · refine lv_iload_n hx hb dX7_told_47 rfl (lv_at hl 3 rfl) ?_
      refine nv_if_ne (tgt := 65) hx hb dX7_told_48 (by decide) (by first | omega | exact Nat.le_trans (TB_le tb _) (by decide) | exact Nat.lt_of_le_of_lt (TB_le tb _) (by decide) | exact Nat.le_trans (fc_le _ _ _ _) (by decide) | exact Nat.lt_of_le_of_lt (fc_le _ _ _ _) (by decide)) (fun c_48 => ?_) (fun c_48 => ?_)
      · refine lv_aload_n hx hb dX7_told_65 rfl (lv_at hl 0 rfl) ?_
        refine lv_iload_n hx hb dX7_told_66 rfl (lv_at hl 3 rfl) ?_
        refine lv_iconst (v := nI 1) hx hb dX7_told_67 (by decide) ?_
        refine nv_icmp_ne (tgt := 83) hx hb dX7_told_68 (by decide) (by first | omega | exact Nat.le_trans (TB_le tb _) (by decide) | exact Nat.lt_of_le_of_lt (TB_le tb _) (by decide) | exact Nat.le_trans (fc_le _ _ _ _) (by decide) | exact Nat.lt_of_le_of_lt (fc_le _ _ _ _) (by decide)) (by first | omega | exact Nat.le_trans (TB_le tb _) (by decide) | exact Nat.lt_of_le_of_lt (TB_le tb _) (by decide) | exact Nat.le_trans (fc_le _ _ _ _) (by decide) | exact Nat.lt_of_le_of_lt (fc_le _ _ _ _) (by decide)) (fun c_68 => ?_) (fun c_68 => ?_)
        · refine lv_aload_n hx hb dX7_told_83 rfl (lv_at hl 0 rfl) ?_
          refine va_get (D := G) (own := RX7) (ref := "SpotRows") (ci := 7) (v := .ref (a 2)) (C := RX7) (T := TX7) (N := 8) hx hb hts hinX7 hown hK.1 hP 0 rfl rfl 1 (by decide) fl19 (fun _ h9 => h9) rfl dX7_told_84 ?_
          refine lv_iload_n hx hb dX7_told_87 rfl (lv_at hl 1 rfl) ?_
          refine lv_iload_n hx hb dX7_told_88 rfl (lv_at hl 2 rfl) ?_
          refine cro_i (va_runV (As := [.int (nI j_x), .int (nI j_d)]) (rest := [.ref (a 0)]) ⟨hx, hb, hml, hown, hts⟩ (c_X5_numberOf l G cI cJ (a := a) (ey := nI ey) (le := le) (t := t) (e := j_x) (d := j_d) (tb := by first | assumption | omega) (he := by first | assumption | omega) (hd := by first | assumption | omega) (hn := by first | assumption | omega)) (cwV 2 hts gX7_told_X5_numberOf rfl rfl rfl (by decide +kernel) ⟨Nat.le_of_ble_eq_true rfl, Nat.le_of_ble_eq_true rfl⟩) (preV_ro (wc := [oTe a (nI ey) le, aI cI (a 11) 1920 (oF t)]) hK hP [1, 2] rfl 5 1 rfl rfl rfl) rfl rfl hl.1 rfl (lv_room (Nat.le_of_ble_eq_true rfl)) dX7_told_89 ⟨Nat.zero_le _, Nat.zero_le _⟩) ?_
          refine crw_i (va_runV (As := [.int (nI (num t (j_x * 240 + j_d)))]) (rest := []) ⟨hx, hb, hml, hown, hts⟩ (c_X7_answer l G cI cJ (a := a) (oc := oc) (w := nI (num t (j_x * 240 + j_d))) ) (cwV 1 hts gX7_told_X7_answer rfl rfl rfl (by decide +kernel) ⟨Nat.le_of_ble_eq_true rfl, Nat.le_of_ble_eq_true rfl⟩) (preV_rw (wc := [oX a oc]) hK hP hD [0] rfl rfl 7 0 rfl rfl rfl) rfl rfl hl.1 rfl (lv_room (Nat.le_of_ble_eq_true rfl)) dX7_told_92 ⟨Nat.zero_le _, Nat.zero_le _⟩) hP hD hS [0] rfl [a 0] (fun u => rfl) rfl (fun r_92 u_ H locs hw_92 hP hD hS => ?_)
          have hP : va_P G vwCl [oX a (nI 0), oTe a (nI ey) le, aI cI (a 11) 1920 (oF t)] H := hP
          have hD : va_D A [oX a (nI 0), oTe a (nI ey) le, aI cI (a 11) 1920 (oF t)] := hD
          refine toi hw_92 ?_
          have hP : va_P G vwCl [oX a (nI (qTold t ey (nI j_x) (nI j_d) (nI j_w))), oTe a (nI ey) le, aI cI (a 11) 1920 (oF t)] H := by
            have ew : ([oX a (nI 0), oTe a (nI ey) le, aI cI (a 11) 1920 (oF t)] : va_W) = [oX a (nI (qTold t ey (nI j_x) (nI j_d) (nI j_w))), oTe a (nI ey) le, aI cI (a 11) 1920 (oF t)] := (wvC (congrArg (fun zz => oX a zz) (show nI 0 = nI (qTold t ey (nI j_x) (nI j_d) (nI j_w)) from (congrArg nI (show 0 = (qTold t ey (nI j_x) (nI j_d) (nI j_w)) from by first | rfl | (simp only [rTold, qTold, cif_T, cif_F, ctold, c_5, e_x, c_12, e_d, c_20, e_w, c_38]; done) | (simp [rTold, qTold, cif_T, cif_F, ctold, c_5, e_x, c_12, e_d, c_20, e_w, c_38]; done) | (simp [rTold, qTold, cif_T, cif_F, ctold, c_5, e_x, c_12, e_d, c_20, e_w, c_38]; simp [c_48, c_68]; done) | (simp [rTold, qTold, cif_T, cif_F, ctold, c_5, e_x, c_12, e_d, c_20, e_w, c_38, c_48, c_68]; done) | omega | (simp [rTold, qTold, cif_T, cif_F, ctold, c_5, e_x, c_12, e_d, c_20, e_w, c_38]; omega) | (simp [rTold, qTold, cif_T, cif_F, ctold, c_5, e_x, c_12, e_d, c_20, e_w, c_38, c_48, c_68]; omega))))) (wvC rfl (wvC rfl rfl)))
            rw [← ew]; exact hP
          exact W.iret (v := nI (num t (j_x * 240 + j_d))) hx hb hr (fun zt ht zw => ⟨⟨_, (), rfl, ((nI_o (num t (j_x * 240 + j_d))).trans (congrArg oI (show (num t (j_x * 240 + j_d)) + 1 = (rTold t ey (nI j_x) (nI j_d) (nI j_w)) from by first | rfl | (simp only [rTold, qTold, cif_T, cif_F, ctold, c_5, e_x, c_12, e_d, c_20, e_w, c_38]; done) | (simp [rTold, qTold, cif_T, cif_F, ctold, c_5, e_x, c_12, e_d, c_20, e_w, c_38]; done) | (simp [rTold, qTold, cif_T, cif_F, ctold, c_5, e_x, c_12, e_d, c_20, e_w, c_38]; simp [c_48, c_68]; done) | (simp [rTold, qTold, cif_T, cif_F, ctold, c_5, e_x, c_12, e_d, c_20, e_w, c_38, c_48, c_68]; done) | omega | (simp [rTold, qTold, cif_T, cif_F, ctold, c_5, e_x, c_12, e_d, c_20, e_w, c_38]; omega) | (simp [rTold, qTold, cif_T, cif_F, ctold, c_5, e_x, c_12, e_d, c_20, e_w, c_38, c_48, c_68]; omega)))), by show va_P _ _ _ zt.heap; rw [ht]; exact hP⟩, by rw [hAe]; exact hS.F ht⟩) hS.2.2 dX7_told_95
        refine lv_aload_n hx hb dX7_told_71 rfl (lv_at hl 0 rfl) ?_
        refine va_get (D := G) (own := RX7) (ref := "SpotRows") (ci := 7) (v := .ref (a 2)) (C := RX7) (T := TX7) (N := 8) hx hb hts hinX7 hown hK.1 hP 0 rfl rfl 1 (by decide) fl19 (fun _ h9 => h9) rfl dX7_told_72 ?_
        refine lv_iload_n hx hb dX7_told_75 rfl (lv_at hl 1 rfl) ?_
        refine lv_iload_n hx hb dX7_told_76 rfl (lv_at hl 2 rfl) ?_
        refine cro_i (va_runV (As := [.int (nI j_x), .int (nI j_d)]) (rest := [.ref (a 0)]) ⟨hx, hb, hml, hown, hts⟩ (c_X5_spotsOf l G cI cJ (a := a) (ey := nI ey) (le := le) (t := t) (e := j_x) (d := j_d) (tb := by first | assumption | omega) (he := by first | assumption | omega) (hd := by first | assumption | omega) (hn := by first | assumption | omega)) (cwV 2 hts gX7_told_X5_spotsOf rfl rfl rfl (by decide +kernel) ⟨Nat.le_of_ble_eq_true rfl, Nat.le_of_ble_eq_true rfl⟩) (preV_ro (wc := [oTe a (nI ey) le, aI cI (a 11) 1920 (oF t)]) hK hP [1, 2] rfl 5 1 rfl rfl rfl) rfl rfl hl.1 rfl (lv_room (Nat.le_of_ble_eq_true rfl)) dX7_told_77 ⟨Nat.zero_le _, Nat.zero_le _⟩) ?_
        refine lv_goto (tgt := 92) hx hb dX7_told_80 (by decide) ?_
        refine crw_i (va_runV (As := [.int (nI (spt t (j_x * 240 + j_d)))]) (rest := []) ⟨hx, hb, hml, hown, hts⟩ (c_X7_answer l G cI cJ (a := a) (oc := oc) (w := nI (spt t (j_x * 240 + j_d))) ) (cwV 1 hts gX7_told_X7_answer rfl rfl rfl (by decide +kernel) ⟨Nat.le_of_ble_eq_true rfl, Nat.le_of_ble_eq_true rfl⟩) (preV_rw (wc := [oX a oc]) hK hP hD [0] rfl rfl 7 0 rfl rfl rfl) rfl rfl hl.1 rfl (lv_room (Nat.le_of_ble_eq_true rfl)) dX7_told_92 ⟨Nat.zero_le _, Nat.zero_le _⟩) hP hD hS [0] rfl [a 0] (fun u => rfl) rfl (fun r_92 u_ H locs hw_92 hP hD hS => ?_)
        have hP : va_P G vwCl [oX a (nI 0), oTe a (nI ey) le, aI cI (a 11) 1920 (oF t)] H := hP
        have hD : va_D A [oX a (nI 0), oTe a (nI ey) le, aI cI (a 11) 1920 (oF t)] := hD
        refine toi hw_92 ?_
        have hP : va_P G vwCl [oX a (nI (qTold t ey (nI j_x) (nI j_d) (nI j_w))), oTe a (nI ey) le, aI cI (a 11) 1920 (oF t)] H := by
          have ew : ([oX a (nI 0), oTe a (nI ey) le, aI cI (a 11) 1920 (oF t)] : va_W) = [oX a (nI (qTold t ey (nI j_x) (nI j_d) (nI j_w))), oTe a (nI ey) le, aI cI (a 11) 1920 (oF t)] := (wvC (congrArg (fun zz => oX a zz) (show nI 0 = nI (qTold t ey (nI j_x) (nI j_d) (nI j_w)) from (congrArg nI (show 0 = (qTold t ey (nI j_x) (nI j_d) (nI j_w)) from by first | rfl | (simp only [rTold, qTold, cif_T, cif_F, ctold, c_5, e_x, c_12, e_d, c_20, e_w, c_38]; done) | (simp [rTold, qTold, cif_T, cif_F, ctold, c_5, e_x, c_12, e_d, c_20, e_w, c_38]; done) | (simp [rTold, qTold, cif_T, cif_F, ctold, c_5, e_x, c_12, e_d, c_20, e_w, c_38]; simp [c_48, c_68]; done) | (simp [rTold, qTold, cif_T, cif_F, ctold, c_5, e_x, c_12, e_d, c_20, e_w, c_38, c_48, c_68]; done) | omega | (simp [rTold, qTold, cif_T, cif_F, ctold, c_5, e_x, c_12, e_d, c_20, e_w, c_38]; omega) | (simp [rTold, qTold, cif_T, cif_F, ctold, c_5, e_x, c_12, e_d, c_20, e_w, c_38, c_48, c_68]; omega))))) (wvC rfl (wvC rfl rfl)))
          rw [← ew]; exact hP
        exact W.iret (v := nI (spt t (j_x * 240 + j_d))) hx hb hr (fun zt ht zw => ⟨⟨_, (), rfl, ((nI_o (spt t (j_x * 240 + j_d))).trans (congrArg oI (show (spt t (j_x * 240 + j_d)) + 1 = (rTold t ey (nI j_x) (nI j_d) (nI j_w)) from by first | rfl | (simp only [rTold, qTold, cif_T, cif_F, ctold, c_5, e_x, c_12, e_d, c_20, e_w, c_38]; done) | (simp [rTold, qTold, cif_T, cif_F, ctold, c_5, e_x, c_12, e_d, c_20, e_w, c_38]; done) | (simp [rTold, qTold, cif_T, cif_F, ctold, c_5, e_x, c_12, e_d, c_20, e_w, c_38]; simp [c_48, c_68]; done) | (simp [rTold, qTold, cif_T, cif_F, ctold, c_5, e_x, c_12, e_d, c_20, e_w, c_38, c_48, c_68]; done) | omega | (simp [rTold, qTold, cif_T, cif_F, ctold, c_5, e_x, c_12, e_d, c_20, e_w, c_38]; omega) | (simp [rTold, qTold, cif_T, cif_F, ctold, c_5, e_x, c_12, e_d, c_20, e_w, c_38, c_48, c_68]; omega)))), by show va_P _ _ _ zt.heap; rw [ht]; exact hP⟩, by rw [hAe]; exact hS.F ht⟩) hS.2.2 dX7_told_95
      refine lv_aload_n hx hb dX7_told_51 rfl (lv_at hl 0 rfl) ?_
      refine lv_aload_n hx hb dX7_told_52 rfl (lv_at hl 0 rfl) ?_
      refine va_get (D := G) (own := RX7) (ref := "SpotRows") (ci := 7) (v := .ref (a 2)) (C := RX7) (T := TX7) (N := 8) hx hb hts hinX7 hown hK.1 hP 0 rfl rfl 1 (by decide) fl19 (fun _ h9 => h9) rfl dX7_told_53 ?_
      refine lv_iload_n hx hb dX7_told_56 rfl (lv_at hl 1 rfl) ?_
      refine lv_iload_n hx hb dX7_told_57 rfl (lv_at hl 2 rfl) ?_
      refine cro_i (va_runV (As := [.int (nI j_x), .int (nI j_d)]) (rest := [.ref (a 0)]) ⟨hx, hb, hml, hown, hts⟩ (c_X5_groupsOf l G cI cJ (a := a) (ey := nI ey) (le := le) (t := t) (e := j_x) (d := j_d) (tb := by first | assumption | omega) (he := by first | assumption | omega) (hd := by first | assumption | omega) (hn := by first | assumption | omega)) (cwV 2 hts gX7_told_X5_groupsOf rfl rfl rfl (by decide +kernel) ⟨Nat.le_of_ble_eq_true rfl, Nat.le_of_ble_eq_true rfl⟩) (preV_ro (wc := [oTe a (nI ey) le, aI cI (a 11) 1920 (oF t)]) hK hP [1, 2] rfl 5 1 rfl rfl rfl) rfl rfl hl.1 rfl (lv_room (Nat.le_of_ble_eq_true rfl)) dX7_told_58 ⟨Nat.zero_le _, Nat.zero_le _⟩) ?_
      refine crw_i (va_runV (As := [.int (nI (grp t (j_x * 240 + j_d)))]) (rest := []) ⟨hx, hb, hml, hown, hts⟩ (c_X7_answer l G cI cJ (a := a) (oc := oc) (w := nI (grp t (j_x * 240 + j_d))) ) (cwV 1 hts gX7_told_X7_answer rfl rfl rfl (by decide +kernel) ⟨Nat.le_of_ble_eq_true rfl, Nat.le_of_ble_eq_true rfl⟩) (preV_rw (wc := [oX a oc]) hK hP hD [0] rfl rfl 7 0 rfl rfl rfl) rfl rfl hl.1 rfl (lv_room (Nat.le_of_ble_eq_true rfl)) dX7_told_61 ⟨Nat.zero_le _, Nat.zero_le _⟩) hP hD hS [0] rfl [a 0] (fun u => rfl) rfl (fun r_61 u_ H locs hw_61 hP hD hS => ?_)
      have hP : va_P G vwCl [oX a (nI 0), oTe a (nI ey) le, aI cI (a 11) 1920 (oF t)] H := hP
      have hD : va_D A [oX a (nI 0), oTe a (nI ey) le, aI cI (a 11) 1920 (oF t)] := hD
      refine toi hw_61 ?_
      have hP : va_P G vwCl [oX a (nI (qTold t ey (nI j_x) (nI j_d) (nI j_w))), oTe a (nI ey) le, aI cI (a 11) 1920 (oF t)] H := by
        have ew : ([oX a (nI 0), oTe a (nI ey) le, aI cI (a 11) 1920 (oF t)] : va_W) = [oX a (nI (qTold t ey (nI j_x) (nI j_d) (nI j_w))), oTe a (nI ey) le, aI cI (a 11) 1920 (oF t)] := (wvC (congrArg (fun zz => oX a zz) (show nI 0 = nI (qTold t ey (nI j_x) (nI j_d) (nI j_w)) from (congrArg nI (show 0 = (qTold t ey (nI j_x) (nI j_d) (nI j_w)) from by first | rfl | (simp only [rTold, qTold, cif_T, cif_F, ctold, c_5, e_x, c_12, e_d, c_20, e_w, c_38]; done) | (simp [rTold, qTold, cif_T, cif_F, ctold, c_5, e_x, c_12, e_d, c_20, e_w, c_38]; done) | (simp [rTold, qTold, cif_T, cif_F, ctold, c_5, e_x, c_12, e_d, c_20, e_w, c_38]; simp [c_48]; done) | (simp [rTold, qTold, cif_T, cif_F, ctold, c_5, e_x, c_12, e_d, c_20, e_w, c_38, c_48]; done) | omega | (simp [rTold, qTold, cif_T, cif_F, ctold, c_5, e_x, c_12, e_d, c_20, e_w, c_38]; omega) | (simp [rTold, qTold, cif_T, cif_F, ctold, c_5, e_x, c_12, e_d, c_20, e_w, c_38, c_48]; omega))))) (wvC rfl (wvC rfl rfl)))
        rw [← ew]; exact hP
      exact W.iret (v := nI (grp t (j_x * 240 + j_d))) hx hb hr (fun zt ht zw => ⟨⟨_, (), rfl, ((nI_o (grp t (j_x * 240 + j_d))).trans (congrArg oI (show (grp t (j_x * 240 + j_d)) + 1 = (rTold t ey (nI j_x) (nI j_d) (nI j_w)) from by first | rfl | (simp only [rTold, qTold, cif_T, cif_F, ctold, c_5, e_x, c_12, e_d, c_20, e_w, c_38]; done) | (simp [rTold, qTold, cif_T, cif_F, ctold, c_5, e_x, c_12, e_d, c_20, e_w, c_38]; done) | (simp [rTold, qTold, cif_T, cif_F, ctold, c_5, e_x, c_12, e_d, c_20, e_w, c_38]; simp [c_48]; done) | (simp [rTold, qTold, cif_T, cif_F, ctold, c_5, e_x, c_12, e_d, c_20, e_w, c_38, c_48]; done) | omega | (simp [rTold, qTold, cif_T, cif_F, ctold, c_5, e_x, c_12, e_d, c_20, e_w, c_38]; omega) | (simp [rTold, qTold, cif_T, cif_F, ctold, c_5, e_x, c_12, e_d, c_20, e_w, c_38, c_48]; omega)))), by show va_P _ _ _ zt.heap; rw [ht]; exact hP⟩, by rw [hAe]; exact hS.F ht⟩) hS.2.2 dX7_told_64
    refine lv_aload_n hx hb dX7_told_41 rfl (lv_at hl 0 rfl) ?_
    refine lv_iconst (v := nI 5) hx hb dX7_told_42 (by decide) ?_
    refine crw_i (va_runV (As := [.int (nI 5)]) (rest := []) ⟨hx, hb, hml, hown, hts⟩ (c_X7_lack l G cI cJ (a := a) (oc := oc) (w := nI 5) ) (cwV 1 hts gX7_told_X7_lack rfl rfl rfl (by decide +kernel) ⟨Nat.le_of_ble_eq_true rfl, Nat.le_of_ble_eq_true rfl⟩) (preV_rw (wc := [oX a oc]) hK hP hD [0] rfl rfl 7 0 rfl rfl rfl) rfl rfl hl.1 rfl (lv_room (Nat.le_of_ble_eq_true rfl)) dX7_told_43 ⟨Nat.zero_le _, Nat.zero_le _⟩) hP hD hS [0] rfl [a 0] (fun u => rfl) rfl (fun r_43 u_ H locs hw_43 hP hD hS => ?_)
    have hP : va_P G vwCl [oX a (nI 5), oTe a (nI ey) le, aI cI (a 11) 1920 (oF t)] H := hP
    have hD : va_D A [oX a (nI 5), oTe a (nI ey) le, aI cI (a 11) 1920 (oF t)] := hD
    refine toi hw_43 ?_
    have hP : va_P G vwCl [oX a (nI (qTold t ey (nI j_x) (nI j_d) (nI j_w))), oTe a (nI ey) le, aI cI (a 11) 1920 (oF t)] H := by
      have ew : ([oX a (nI 5), oTe a (nI ey) le, aI cI (a 11) 1920 (oF t)] : va_W) = [oX a (nI (qTold t ey (nI j_x) (nI j_d) (nI j_w))), oTe a (nI ey) le, aI cI (a 11) 1920 (oF t)] := (wvC (congrArg (fun zz => oX a zz) (show nI 5 = nI (qTold t ey (nI j_x) (nI j_d) (nI j_w)) from (congrArg nI (show 5 = (qTold t ey (nI j_x) (nI j_d) (nI j_w)) from by first | rfl | (simp only [rTold, qTold, cif_T, cif_F, ctold, c_5, e_x, c_12, e_d, c_20, e_w, c_38]; done) | (simp [rTold, qTold, cif_T, cif_F, ctold, c_5, e_x, c_12, e_d, c_20, e_w, c_38]; done) | omega | (simp [rTold, qTold, cif_T, cif_F, ctold, c_5, e_x, c_12, e_d, c_20, e_w, c_38]; omega))))) (wvC rfl (wvC rfl rfl)))
      rw [← ew]; exact hP
    exact W.iret (v := (-1)) hx hb hr (fun zt ht zw => ⟨⟨_, (), rfl, (m1_o.trans (congrArg oI (show 0 = (rTold t ey (nI j_x) (nI j_d) (nI j_w)) from by first | rfl | (simp only [rTold, qTold, cif_T, cif_F, ctold, c_5, e_x, c_12, e_d, c_20, e_w, c_38]; done) | (simp [rTold, qTold, cif_T, cif_F, ctold, c_5, e_x, c_12, e_d, c_20, e_w, c_38]; done) | omega | (simp [rTold, qTold, cif_T, cif_F, ctold, c_5, e_x, c_12, e_d, c_20, e_w, c_38]; omega)))), by show va_P _ _ _ zt.heap; rw [ht]; exact hP⟩, by rw [hAe]; exact hS.F ht⟩) hS.2.2 dX7_told_46
  refine lv_aload_n hx hb dX7_told_23 rfl (lv_at hl 0 rfl) ?_
  refine lv_iconst (v := nI 1) hx hb dX7_told_24 (by decide) ?_
  refine crw_i (va_runV (As := [.int (nI 1)]) (rest := []) ⟨hx, hb, hml, hown, hts⟩ (c_X7_lack l G cI cJ (a := a) (oc := oc) (w := nI 1) ) (cwV 1 hts gX7_told_X7_lack rfl rfl rfl (by decide +kernel) ⟨Nat.le_of_ble_eq_true rfl, Nat.le_of_ble_eq_true rfl⟩) (preV_rw (wc := [oX a oc]) hK hP hD [0] rfl rfl 7 0 rfl rfl rfl) rfl rfl hl.1 rfl (lv_room (Nat.le_of_ble_eq_true rfl)) dX7_told_25 ⟨Nat.zero_le _, Nat.zero_le _⟩) hP hD hS [0] rfl [a 0] (fun u => rfl) rfl (fun r_25 u_ H locs hw_25 hP hD hS => ?_)
  have hP : va_P G vwCl [oX a (nI 1), oTe a (nI ey) le, aI cI (a 11) 1920 (oF t)] H := hP
  have hD : va_D A [oX a (nI 1), oTe a (nI ey) le, aI cI (a 11) 1920 (oF t)] := hD
  refine toi hw_25 ?_
  have hP : va_P G vwCl [oX a (nI (qTold t ey (nI j_x) (nI j_d) w)), oTe a (nI ey) le, aI cI (a 11) 1920 (oF t)] H := by
    have ew : ([oX a (nI 1), oTe a (nI ey) le, aI cI (a 11) 1920 (oF t)] : va_W) = [oX a (nI (qTold t ey (nI j_x) (nI j_d) w)), oTe a (nI ey) le, aI cI (a 11) 1920 (oF t)] := (wvC (congrArg (fun zz => oX a zz) (show nI 1 = nI (qTold t ey (nI j_x) (nI j_d) w) from (congrArg nI (show 1 = (qTold t ey (nI j_x) (nI j_d) w) from by first | rfl | (simp only [rTold, qTold, cif_T, cif_F, ctold, c_5, e_x, c_12, e_d, c_20]; done) | (simp [rTold, qTold, cif_T, cif_F, ctold, c_5, e_x, c_12, e_d, c_20]; done) | omega | (simp [rTold, qTold, cif_T, cif_F, ctold, c_5, e_x, c_12, e_d, c_20]; omega))))) (wvC rfl (wvC rfl rfl)))
    rw [← ew]; exact hP
  exact W.iret (v := (-1)) hx hb hr (fun zt ht zw => ⟨⟨_, (), rfl, (m1_o.trans (congrArg oI (show 0 = (rTold t ey (nI j_x) (nI j_d) w) from by first | rfl | (simp only [rTold, qTold, cif_T, cif_F, ctold, c_5, e_x, c_12, e_d, c_20]; done) | (simp [rTold, qTold, cif_T, cif_F, ctold, c_5, e_x, c_12, e_d, c_20]; done) | omega | (simp [rTold, qTold, cif_T, cif_F, ctold, c_5, e_x, c_12, e_d, c_20]; omega)))), by show va_P _ _ _ zt.heap; rw [ht]; exact hP⟩, by rw [hAe]; exact hS.F ht⟩) hS.2.2 dX7_told_28

set_option maxHeartbeats 400000 in
set_option maxRecDepth 100000 in
theorem c_X7_days (l : Launch) (G : va_G) (cI cJ : ClassId) (a : Nat → Nat) (oc : Int32) (ey : Nat) (le : Int32) (t : Nat → Nat) (x : Int32) (tb : TB t) (hey : ey ≤ 8) : Met l yX7_days wsX7_days ({ frames := 2, cells := 0, slots := 0, locals := 47 }) (rwP G cI cJ [.ref (a 0), .int x] [oX a oc, oTe a (nI ey) le, aI cI (a 11) 1920 (oF t)]) (rwQi G [oX a oc, oTe a (nI ey) le, aI cI (a 11) 1920 (oF t)] (fun (r : Int32) (_ : Unit) => r = oI (rDays t ey x)) (fun (_ : Unit) => [oX a (nI (q1 (rg x ey))), oTe a (nI ey) le, aI cI (a 11) 1920 (oF t)])) 0 0 (ads [oX a oc, oTe a (nI ey) le, aI cI (a 11) 1920 (oF t)]) := by
  refine Met.ofW (cc := cX7_days) (maxL := 2) (ret := (some .int)) (by decide) rfl ?_
  intro pg ev s mt args below meth cd s₁ B hml hv
  obtain ⟨rfl, hP, hD0, hK⟩ := hv
  have hx := B.exec
  have hb := B.bytes
  have hr := B.returns
  have hts := atoms_spec (ws := wsX7_days) B.pre
  have hown : s.vm.findClass RX7 = some mt.cls := findClass_of_methodNamed B.named
  have hlocks := B.notSynchronized
  have hD := ads_self hD0
  generalize hAe : ads [oX a oc, oTe a (nI ey) le, aI cI (a 11) 1920 (oF t)] = A at hD ⊢
  have hS : va_S A s.heap s.heap [] := va_S.rf
  have hP : va_P G vwCl [oX a oc, oTe a (nI ey) le, aI cI (a 11) 1920 (oF t)] s.heap := hP
  have hinX7 := (show ∀ w ∈ u_ws RX7 TX7 8, w ∈ wsX7_days by decide +kernel)
  have fl19 := hts (.fieldLink RX7 19 "SpotRows" "tellings" "LSpotRows$Tellings;") (by decide +kernel)
  have hl := lv_entry ([.ref (a 0), .int x]) (n := 2) (Nat.le_of_ble_eq_true rfl)
  rw [lg_entry_eq]
  generalize (lg_sl ([.ref (a 0), .int x]) ++ List.replicate (2 - (lg_sl ([.ref (a 0), .int x])).length) Slot.unset).toArray = ls at hl ⊢
  have hl : lv_has ls 2 [(0, .ref (a 0)), (1, .int x)] := hl
  refine lv_aload_n hx hb dX7_days_0 rfl (lv_at hl 0 rfl) ?_
  refine lv_iload_n hx hb dX7_days_1 rfl (lv_at hl 1 rfl) ?_
  refine cro_i (va_runV (As := [.int x]) (rest := []) ⟨hx, hb, hml, hown, hts⟩ (c_X7_isEye l G cI cJ (a := a) (oc := oc) (ey := ey) (le := le) (x := x) (hey := by first | assumption | omega)) (cwV 1 hts gX7_days_X7_isEye rfl rfl rfl (by decide +kernel) ⟨Nat.le_of_ble_eq_true rfl, Nat.le_of_ble_eq_true rfl⟩) (preV_ro (wc := [oX a oc, oTe a (nI ey) le]) hK hP [0, 1] rfl 7 0 rfl rfl rfl) rfl rfl hl.1 rfl (lv_room (Nat.le_of_ble_eq_true rfl)) dX7_days_2 ⟨Nat.zero_le _, Nat.zero_le _⟩) ?_
  refine nb_if_ne (tgt := 14) hx hb dX7_days_5 (by decide) (fun c_5 => ?_) (fun c_5 => ?_)
  · obtain ⟨j_x, h_x, rfl⟩ := rg_ex c_5
    have e_x := nn_nI (j := j_x) (by omega)
    refine lv_aload_n hx hb dX7_days_14 rfl (lv_at hl 0 rfl) ?_
    refine lv_aload_n hx hb dX7_days_15 rfl (lv_at hl 0 rfl) ?_
    refine va_get (D := G) (own := RX7) (ref := "SpotRows") (ci := 7) (v := .ref (a 2)) (C := RX7) (T := TX7) (N := 8) hx hb hts hinX7 hown hK.1 hP 0 rfl rfl 1 (by decide) fl19 (fun _ h9 => h9) rfl dX7_days_16 ?_
    refine lv_iload_n hx hb dX7_days_19 rfl (lv_at hl 1 rfl) ?_
    refine lv_iconst (v := nI 0) hx hb dX7_days_20 (by decide) ?_
    refine lv_sipush (v := nI 239) hx hb dX7_days_21 (by decide) ?_
    refine cro_i (va_runV (As := [.int (nI j_x), .int (nI 0), .int (nI 239)]) (rest := [.ref (a 0)]) ⟨hx, hb, hml, hown, hts⟩ (c_X5_countDays l G cI cJ (a := a) (ey := nI ey) (le := le) (t := t) (e := j_x) (lo := 0) (hi := 239) (tb := by first | assumption | omega) (he := by first | assumption | omega) (h_l := by first | assumption | omega) (hh := by first | assumption | omega)) (cwV 3 hts gX7_days_X5_countDays rfl rfl rfl (by decide +kernel) ⟨Nat.le_of_ble_eq_true rfl, Nat.le_of_ble_eq_true rfl⟩) (preV_ro (wc := [oTe a (nI ey) le, aI cI (a 11) 1920 (oF t)]) hK hP [1, 2] rfl 5 1 rfl rfl rfl) rfl rfl hl.1 rfl (lv_room (Nat.le_of_ble_eq_true rfl)) dX7_days_24 ⟨Nat.zero_le _, Nat.zero_le _⟩) ?_
    refine crw_i (va_runV (As := [.int (nI (cD t j_x 0 (239 + 1 - 0)))]) (rest := []) ⟨hx, hb, hml, hown, hts⟩ (c_X7_answer l G cI cJ (a := a) (oc := oc) (w := nI (cD t j_x 0 (239 + 1 - 0))) ) (cwV 1 hts gX7_days_X7_answer rfl rfl rfl (by decide +kernel) ⟨Nat.le_of_ble_eq_true rfl, Nat.le_of_ble_eq_true rfl⟩) (preV_rw (wc := [oX a oc]) hK hP hD [0] rfl rfl 7 0 rfl rfl rfl) rfl rfl hl.1 rfl (lv_room (Nat.le_of_ble_eq_true rfl)) dX7_days_27 ⟨Nat.zero_le _, Nat.zero_le _⟩) hP hD hS [0] rfl [a 0] (fun u => rfl) rfl (fun r_27 u_ H locs hw_27 hP hD hS => ?_)
    have hP : va_P G vwCl [oX a (nI 0), oTe a (nI ey) le, aI cI (a 11) 1920 (oF t)] H := hP
    have hD : va_D A [oX a (nI 0), oTe a (nI ey) le, aI cI (a 11) 1920 (oF t)] := hD
    refine toi hw_27 ?_
    have hP : va_P G vwCl [oX a (nI (q1 (rg (nI j_x) ey))), oTe a (nI ey) le, aI cI (a 11) 1920 (oF t)] H := by
      have ew : ([oX a (nI 0), oTe a (nI ey) le, aI cI (a 11) 1920 (oF t)] : va_W) = [oX a (nI (q1 (rg (nI j_x) ey))), oTe a (nI ey) le, aI cI (a 11) 1920 (oF t)] := (wvC (congrArg (fun zz => oX a zz) (show nI 0 = nI (q1 (rg (nI j_x) ey)) from (congrArg nI (show 0 = (q1 (rg (nI j_x) ey)) from by first | rfl | (simp only [rDays, q1, cif_T, cif_F, ctold, c_5, e_x]; done) | (simp [rDays, q1, cif_T, cif_F, ctold, c_5, e_x]; done) | omega | (simp [rDays, q1, cif_T, cif_F, ctold, c_5, e_x]; omega))))) (wvC rfl (wvC rfl rfl)))
      rw [← ew]; exact hP
    exact W.iret (v := nI (cD t j_x 0 (239 + 1 - 0))) hx hb hr (fun zt ht zw => ⟨⟨_, (), rfl, ((nI_o (cD t j_x 0 (239 + 1 - 0))).trans (congrArg oI (show (cD t j_x 0 (239 + 1 - 0)) + 1 = (rDays t ey (nI j_x)) from by first | rfl | (simp only [rDays, q1, cif_T, cif_F, ctold, c_5, e_x]; done) | (simp [rDays, q1, cif_T, cif_F, ctold, c_5, e_x]; done) | omega | (simp [rDays, q1, cif_T, cif_F, ctold, c_5, e_x]; omega)))), by show va_P _ _ _ zt.heap; rw [ht]; exact hP⟩, by rw [hAe]; exact hS.F ht⟩) hS.2.2 dX7_days_30
  refine lv_aload_n hx hb dX7_days_8 rfl (lv_at hl 0 rfl) ?_
  refine lv_iconst (v := nI 1) hx hb dX7_days_9 (by decide) ?_
  refine crw_i (va_runV (As := [.int (nI 1)]) (rest := []) ⟨hx, hb, hml, hown, hts⟩ (c_X7_lack l G cI cJ (a := a) (oc := oc) (w := nI 1) ) (cwV 1 hts gX7_days_X7_lack rfl rfl rfl (by decide +kernel) ⟨Nat.le_of_ble_eq_true rfl, Nat.le_of_ble_eq_true rfl⟩) (preV_rw (wc := [oX a oc]) hK hP hD [0] rfl rfl 7 0 rfl rfl rfl) rfl rfl hl.1 rfl (lv_room (Nat.le_of_ble_eq_true rfl)) dX7_days_10 ⟨Nat.zero_le _, Nat.zero_le _⟩) hP hD hS [0] rfl [a 0] (fun u => rfl) rfl (fun r_10 u_ H locs hw_10 hP hD hS => ?_)
  have hP : va_P G vwCl [oX a (nI 1), oTe a (nI ey) le, aI cI (a 11) 1920 (oF t)] H := hP
  have hD : va_D A [oX a (nI 1), oTe a (nI ey) le, aI cI (a 11) 1920 (oF t)] := hD
  refine toi hw_10 ?_
  have hP : va_P G vwCl [oX a (nI (q1 (rg x ey))), oTe a (nI ey) le, aI cI (a 11) 1920 (oF t)] H := by
    have ew : ([oX a (nI 1), oTe a (nI ey) le, aI cI (a 11) 1920 (oF t)] : va_W) = [oX a (nI (q1 (rg x ey))), oTe a (nI ey) le, aI cI (a 11) 1920 (oF t)] := (wvC (congrArg (fun zz => oX a zz) (show nI 1 = nI (q1 (rg x ey)) from (congrArg nI (show 1 = (q1 (rg x ey)) from by first | rfl | (simp only [rDays, q1, cif_T, cif_F, ctold, c_5]; done) | (simp [rDays, q1, cif_T, cif_F, ctold, c_5]; done) | omega | (simp [rDays, q1, cif_T, cif_F, ctold, c_5]; omega))))) (wvC rfl (wvC rfl rfl)))
    rw [← ew]; exact hP
  exact W.iret (v := (-1)) hx hb hr (fun zt ht zw => ⟨⟨_, (), rfl, (m1_o.trans (congrArg oI (show 0 = (rDays t ey x) from by first | rfl | (simp only [rDays, q1, cif_T, cif_F, ctold, c_5]; done) | (simp [rDays, q1, cif_T, cif_F, ctold, c_5]; done) | omega | (simp [rDays, q1, cif_T, cif_F, ctold, c_5]; omega)))), by show va_P _ _ _ zt.heap; rw [ht]; exact hP⟩, by rw [hAe]; exact hS.F ht⟩) hS.2.2 dX7_days_13

set_option maxHeartbeats 400000 in
set_option maxRecDepth 100000 in
theorem c_X7_both (l : Launch) (G : va_G) (cI cJ : ClassId) (a : Nat → Nat) (oc : Int32) (ey : Nat) (le : Nat) (t : Nat → Nat) (bd : Nat → Int32) (bs : Nat → Int32) (x : Int32) (y : Int32) (tb : TB t) (hT : TT t bd bs) (hey : ey ≤ 8) : Met l yX7_both wsX7_both ({ frames := 2, cells := 0, slots := 0, locals := 43 }) (rwP G cI cJ [.ref (a 0), .int x, .int y] [oX a oc, oTe a (nI ey) (nI le), aI cI (a 12) 64 bd]) (rwQi G [oX a oc, oTe a (nI ey) (nI le), aI cI (a 12) 64 bd] (fun (r : Int32) (_ : Unit) => r = oI (rBoth t ey x y)) (fun (_ : Unit) => [oX a (nI (q1 (pr ey x y))), oTe a (nI ey) (nI le), aI cI (a 12) 64 bd])) 0 0 (ads [oX a oc, oTe a (nI ey) (nI le), aI cI (a 12) 64 bd]) := by
  refine Met.ofW (cc := cX7_both) (maxL := 3) (ret := (some .int)) (by decide) rfl ?_
  intro pg ev s mt args below meth cd s₁ B hml hv
  obtain ⟨rfl, hP, hD0, hK⟩ := hv
  have hx := B.exec
  have hb := B.bytes
  have hr := B.returns
  have hts := atoms_spec (ws := wsX7_both) B.pre
  have hown : s.vm.findClass RX7 = some mt.cls := findClass_of_methodNamed B.named
  have hlocks := B.notSynchronized
  have hD := ads_self hD0
  generalize hAe : ads [oX a oc, oTe a (nI ey) (nI le), aI cI (a 12) 64 bd] = A at hD ⊢
  have hS : va_S A s.heap s.heap [] := va_S.rf
  have hP : va_P G vwCl [oX a oc, oTe a (nI ey) (nI le), aI cI (a 12) 64 bd] s.heap := hP
  have hinX7 := (show ∀ w ∈ u_ws RX7 TX7 8, w ∈ wsX7_both by decide +kernel)
  have fl19 := hts (.fieldLink RX7 19 "SpotRows" "tellings" "LSpotRows$Tellings;") (by decide +kernel)
  have hl := lv_entry ([.ref (a 0), .int x, .int y]) (n := 3) (Nat.le_of_ble_eq_true rfl)
  rw [lg_entry_eq]
  generalize (lg_sl ([.ref (a 0), .int x, .int y]) ++ List.replicate (3 - (lg_sl ([.ref (a 0), .int x, .int y])).length) Slot.unset).toArray = ls at hl ⊢
  have hl : lv_has ls 3 [(0, .ref (a 0)), (1, .int x), (2, .int y)] := hl
  refine lv_aload_n hx hb dX7_both_0 rfl (lv_at hl 0 rfl) ?_
  refine lv_iload_n hx hb dX7_both_1 rfl (lv_at hl 1 rfl) ?_
  refine lv_iload_n hx hb dX7_both_2 rfl (lv_at hl 2 rfl) ?_
  refine cro_i (va_runV (As := [.int x, .int y]) (rest := []) ⟨hx, hb, hml, hown, hts⟩ (c_X7_arePair l G cI cJ (a := a) (oc := oc) (ey := ey) (le := nI le) (x := x) (y := y) (hey := by first | assumption | omega)) (cwV 2 hts gX7_both_X7_arePair rfl rfl rfl (by decide +kernel) ⟨Nat.le_of_ble_eq_true rfl, Nat.le_of_ble_eq_true rfl⟩) (preV_ro (wc := [oX a oc, oTe a (nI ey) (nI le)]) hK hP [0, 1] rfl 7 0 rfl rfl rfl) rfl rfl hl.1 rfl (lv_room (Nat.le_of_ble_eq_true rfl)) dX7_both_3 ⟨Nat.zero_le _, Nat.zero_le _⟩) ?_
  refine nb_if_ne (tgt := 15) hx hb dX7_both_6 (by decide) (fun c_6 => ?_) (fun c_6 => ?_)
  · obtain ⟨j_x, h_x, rfl⟩ := rg_ex c_6.1
    have e_x := nn_nI (j := j_x) (by omega)
    obtain ⟨j_y, h_y, rfl⟩ := rg_ex c_6.2.1
    have e_y := nn_nI (j := j_y) (by omega)
    have ne_x_y : j_x ≠ j_y := fun h => c_6.2.2 (congrArg nI h)
    refine lv_aload_n hx hb dX7_both_15 rfl (lv_at hl 0 rfl) ?_
    refine lv_aload_n hx hb dX7_both_16 rfl (lv_at hl 0 rfl) ?_
    refine va_get (D := G) (own := RX7) (ref := "SpotRows") (ci := 7) (v := .ref (a 2)) (C := RX7) (T := TX7) (N := 8) hx hb hts hinX7 hown hK.1 hP 0 rfl rfl 1 (by decide) fl19 (fun _ h9 => h9) rfl dX7_both_17 ?_
    refine lv_iload_n hx hb dX7_both_20 rfl (lv_at hl 1 rfl) ?_
    refine lv_iload_n hx hb dX7_both_21 rfl (lv_at hl 2 rfl) ?_
    refine cro_i (va_runV (As := [.int (nI j_x), .int (nI j_y)]) (rest := [.ref (a 0)]) ⟨hx, hb, hml, hown, hts⟩ (c_X5_countBoth l G cI cJ (a := a) (ey := nI ey) (le := nI le) (t := t) (bd := bd) (bs := bs) (x := j_x) (y := j_y) (tb := by first | assumption | omega) (hT := by first | assumption | omega) (h_x := by first | assumption | omega) (h_y := by first | assumption | omega) (h_n := by first | assumption | omega)) (cwV 2 hts gX7_both_X5_countBoth rfl rfl rfl (by decide +kernel) ⟨Nat.le_of_ble_eq_true rfl, Nat.le_of_ble_eq_true rfl⟩) (preV_ro (wc := [oTe a (nI ey) (nI le), aI cI (a 12) 64 bd]) hK hP [1, 2] rfl 5 1 rfl rfl rfl) rfl rfl hl.1 rfl (lv_room (Nat.le_of_ble_eq_true rfl)) dX7_both_22 ⟨Nat.zero_le _, Nat.zero_le _⟩) ?_
    refine crw_i (va_runV (As := [.int (nI (cB t j_x j_y 240))]) (rest := []) ⟨hx, hb, hml, hown, hts⟩ (c_X7_answer l G cI cJ (a := a) (oc := oc) (w := nI (cB t j_x j_y 240)) ) (cwV 1 hts gX7_both_X7_answer rfl rfl rfl (by decide +kernel) ⟨Nat.le_of_ble_eq_true rfl, Nat.le_of_ble_eq_true rfl⟩) (preV_rw (wc := [oX a oc]) hK hP hD [0] rfl rfl 7 0 rfl rfl rfl) rfl rfl hl.1 rfl (lv_room (Nat.le_of_ble_eq_true rfl)) dX7_both_25 ⟨Nat.zero_le _, Nat.zero_le _⟩) hP hD hS [0] rfl [a 0] (fun u => rfl) rfl (fun r_25 u_ H locs hw_25 hP hD hS => ?_)
    have hP : va_P G vwCl [oX a (nI 0), oTe a (nI ey) (nI le), aI cI (a 12) 64 bd] H := hP
    have hD : va_D A [oX a (nI 0), oTe a (nI ey) (nI le), aI cI (a 12) 64 bd] := hD
    refine toi hw_25 ?_
    have hP : va_P G vwCl [oX a (nI (q1 (pr ey (nI j_x) (nI j_y)))), oTe a (nI ey) (nI le), aI cI (a 12) 64 bd] H := by
      have ew : ([oX a (nI 0), oTe a (nI ey) (nI le), aI cI (a 12) 64 bd] : va_W) = [oX a (nI (q1 (pr ey (nI j_x) (nI j_y)))), oTe a (nI ey) (nI le), aI cI (a 12) 64 bd] := (wvC (congrArg (fun zz => oX a zz) (show nI 0 = nI (q1 (pr ey (nI j_x) (nI j_y))) from (congrArg nI (show 0 = (q1 (pr ey (nI j_x) (nI j_y))) from by first | rfl | (simp only [rBoth, q1, pr, cif_T, cif_F, ctold, c_6, e_x, e_y]; done) | (simp [rBoth, q1, pr, cif_T, cif_F, ctold, c_6, e_x, e_y]; done) | omega | (simp [rBoth, q1, pr, cif_T, cif_F, ctold, c_6, e_x, e_y]; omega))))) (wvC rfl (wvC rfl rfl)))
      rw [← ew]; exact hP
    exact W.iret (v := nI (cB t j_x j_y 240)) hx hb hr (fun zt ht zw => ⟨⟨_, (), rfl, ((nI_o (cB t j_x j_y 240)).trans (congrArg oI (show (cB t j_x j_y 240) + 1 = (rBoth t ey (nI j_x) (nI j_y)) from by first | rfl | (simp only [rBoth, q1, pr, cif_T, cif_F, ctold, c_6, e_x, e_y]; done) | (simp [rBoth, q1, pr, cif_T, cif_F, ctold, c_6, e_x, e_y]; done) | omega | (simp [rBoth, q1, pr, cif_T, cif_F, ctold, c_6, e_x, e_y]; omega)))), by show va_P _ _ _ zt.heap; rw [ht]; exact hP⟩, by rw [hAe]; exact hS.F ht⟩) hS.2.2 dX7_both_28
  refine lv_aload_n hx hb dX7_both_9 rfl (lv_at hl 0 rfl) ?_
  refine lv_iconst (v := nI 1) hx hb dX7_both_10 (by decide) ?_
  refine crw_i (va_runV (As := [.int (nI 1)]) (rest := []) ⟨hx, hb, hml, hown, hts⟩ (c_X7_lack l G cI cJ (a := a) (oc := oc) (w := nI 1) ) (cwV 1 hts gX7_both_X7_lack rfl rfl rfl (by decide +kernel) ⟨Nat.le_of_ble_eq_true rfl, Nat.le_of_ble_eq_true rfl⟩) (preV_rw (wc := [oX a oc]) hK hP hD [0] rfl rfl 7 0 rfl rfl rfl) rfl rfl hl.1 rfl (lv_room (Nat.le_of_ble_eq_true rfl)) dX7_both_11 ⟨Nat.zero_le _, Nat.zero_le _⟩) hP hD hS [0] rfl [a 0] (fun u => rfl) rfl (fun r_11 u_ H locs hw_11 hP hD hS => ?_)
  have hP : va_P G vwCl [oX a (nI 1), oTe a (nI ey) (nI le), aI cI (a 12) 64 bd] H := hP
  have hD : va_D A [oX a (nI 1), oTe a (nI ey) (nI le), aI cI (a 12) 64 bd] := hD
  refine toi hw_11 ?_
  have hP : va_P G vwCl [oX a (nI (q1 (pr ey x y))), oTe a (nI ey) (nI le), aI cI (a 12) 64 bd] H := by
    have ew : ([oX a (nI 1), oTe a (nI ey) (nI le), aI cI (a 12) 64 bd] : va_W) = [oX a (nI (q1 (pr ey x y))), oTe a (nI ey) (nI le), aI cI (a 12) 64 bd] := (wvC (congrArg (fun zz => oX a zz) (show nI 1 = nI (q1 (pr ey x y)) from (congrArg nI (show 1 = (q1 (pr ey x y)) from by first | rfl | (simp only [rBoth, q1, pr, cif_T, cif_F, ctold, c_6]; done) | (simp [rBoth, q1, pr, cif_T, cif_F, ctold, c_6]; done) | omega | (simp [rBoth, q1, pr, cif_T, cif_F, ctold, c_6]; omega))))) (wvC rfl (wvC rfl rfl)))
    rw [← ew]; exact hP
  exact W.iret (v := (-1)) hx hb hr (fun zt ht zw => ⟨⟨_, (), rfl, (m1_o.trans (congrArg oI (show 0 = (rBoth t ey x y) from by first | rfl | (simp only [rBoth, q1, pr, cif_T, cif_F, ctold, c_6]; done) | (simp [rBoth, q1, pr, cif_T, cif_F, ctold, c_6]; done) | omega | (simp [rBoth, q1, pr, cif_T, cif_F, ctold, c_6]; omega)))), by show va_P _ _ _ zt.heap; rw [ht]; exact hP⟩, by rw [hAe]; exact hS.F ht⟩) hS.2.2 dX7_both_14

set_option maxHeartbeats 400000 in
set_option maxRecDepth 100000 in
theorem c_X7_factor (l : Launch) (G : va_G) (cI cJ : ClassId) (a : Nat → Nat) (oc : Int32) (ey : Nat) (le : Nat) (t : Nat → Nat) (bd : Nat → Int32) (bs : Nat → Int32) (x : Int32) (y : Int32) (tb : TB t) (hT : TT t bd bs) (hey : ey ≤ 8) (hle : le ≤ 100) : Met l yX7_factor wsX7_factor ({ frames := 2, cells := 0, slots := 0, locals := 43 }) (rwP G cI cJ [.ref (a 0), .int x, .int y] [oX a oc, oTe a (nI ey) (nI le), aI cI (a 12) 64 bd, aI cI (a 13) 64 bs]) (rwQi G [oX a oc, oTe a (nI ey) (nI le), aI cI (a 12) 64 bd, aI cI (a 13) 64 bs] (fun (r : Int32) (_ : Unit) => r = oI (rFactor t ey le x y)) (fun (_ : Unit) => [oX a (nI (qFactor t ey le x y)), oTe a (nI ey) (nI le), aI cI (a 12) 64 bd, aI cI (a 13) 64 bs])) 0 0 (ads [oX a oc, oTe a (nI ey) (nI le), aI cI (a 12) 64 bd, aI cI (a 13) 64 bs]) := by
  refine Met.ofW (cc := cX7_factor) (maxL := 3) (ret := (some .int)) (by decide) rfl ?_
  intro pg ev s mt args below meth cd s₁ B hml hv
  obtain ⟨rfl, hP, hD0, hK⟩ := hv
  have hx := B.exec
  have hb := B.bytes
  have hr := B.returns
  have hts := atoms_spec (ws := wsX7_factor) B.pre
  have hown : s.vm.findClass RX7 = some mt.cls := findClass_of_methodNamed B.named
  have hlocks := B.notSynchronized
  have hD := ads_self hD0
  generalize hAe : ads [oX a oc, oTe a (nI ey) (nI le), aI cI (a 12) 64 bd, aI cI (a 13) 64 bs] = A at hD ⊢
  have hS : va_S A s.heap s.heap [] := va_S.rf
  have hP : va_P G vwCl [oX a oc, oTe a (nI ey) (nI le), aI cI (a 12) 64 bd, aI cI (a 13) 64 bs] s.heap := hP
  have hinX7 := (show ∀ w ∈ u_ws RX7 TX7 8, w ∈ wsX7_factor by decide +kernel)
  have fl19 := hts (.fieldLink RX7 19 "SpotRows" "tellings" "LSpotRows$Tellings;") (by decide +kernel)
  have hl := lv_entry ([.ref (a 0), .int x, .int y]) (n := 3) (Nat.le_of_ble_eq_true rfl)
  rw [lg_entry_eq]
  generalize (lg_sl ([.ref (a 0), .int x, .int y]) ++ List.replicate (3 - (lg_sl ([.ref (a 0), .int x, .int y])).length) Slot.unset).toArray = ls at hl ⊢
  have hl : lv_has ls 3 [(0, .ref (a 0)), (1, .int x), (2, .int y)] := hl
  refine lv_aload_n hx hb dX7_factor_0 rfl (lv_at hl 0 rfl) ?_
  refine lv_iload_n hx hb dX7_factor_1 rfl (lv_at hl 1 rfl) ?_
  refine lv_iload_n hx hb dX7_factor_2 rfl (lv_at hl 2 rfl) ?_
  refine cro_i (va_runV (As := [.int x, .int y]) (rest := []) ⟨hx, hb, hml, hown, hts⟩ (c_X7_arePair l G cI cJ (a := a) (oc := oc) (ey := ey) (le := nI le) (x := x) (y := y) (hey := by first | assumption | omega)) (cwV 2 hts gX7_factor_X7_arePair rfl rfl rfl (by decide +kernel) ⟨Nat.le_of_ble_eq_true rfl, Nat.le_of_ble_eq_true rfl⟩) (preV_ro (wc := [oX a oc, oTe a (nI ey) (nI le)]) hK hP [0, 1] rfl 7 0 rfl rfl rfl) rfl rfl hl.1 rfl (lv_room (Nat.le_of_ble_eq_true rfl)) dX7_factor_3 ⟨Nat.zero_le _, Nat.zero_le _⟩) ?_
  refine nb_if_ne (tgt := 15) hx hb dX7_factor_6 (by decide) (fun c_6 => ?_) (fun c_6 => ?_)
  · obtain ⟨j_x, h_x, rfl⟩ := rg_ex c_6.1
    have e_x := nn_nI (j := j_x) (by omega)
    obtain ⟨j_y, h_y, rfl⟩ := rg_ex c_6.2.1
    have e_y := nn_nI (j := j_y) (by omega)
    have ne_x_y : j_x ≠ j_y := fun h => c_6.2.2 (congrArg nI h)
    refine lv_aload_n hx hb dX7_factor_15 rfl (lv_at hl 0 rfl) ?_
    refine lv_bipush (v := nI 6) hx hb dX7_factor_16 (by decide) ?_
    refine lv_aload_n hx hb dX7_factor_18 rfl (lv_at hl 0 rfl) ?_
    refine va_get (D := G) (own := RX7) (ref := "SpotRows") (ci := 7) (v := .ref (a 2)) (C := RX7) (T := TX7) (N := 8) hx hb hts hinX7 hown hK.1 hP 0 rfl rfl 1 (by decide) fl19 (fun _ h9 => h9) rfl dX7_factor_19 ?_
    refine lv_iload_n hx hb dX7_factor_22 rfl (lv_at hl 1 rfl) ?_
    refine lv_iload_n hx hb dX7_factor_23 rfl (lv_at hl 2 rfl) ?_
    refine cro_i (va_runV (As := [.int (nI j_x), .int (nI j_y)]) (rest := [.int (nI 6), .ref (a 0)]) ⟨hx, hb, hml, hown, hts⟩ (c_X5_factorOf l G cI cJ (a := a) (ey := nI ey) (le := le) (t := t) (bd := bd) (bs := bs) (x := j_x) (y := j_y) (tb := by first | assumption | omega) (hT := by first | assumption | omega) (h_x := by first | assumption | omega) (h_y := by first | assumption | omega) (h_n := by first | assumption | omega) (hle := by first | assumption | omega)) (cwV 2 hts gX7_factor_X5_factorOf rfl rfl rfl (by decide +kernel) ⟨Nat.le_of_ble_eq_true rfl, Nat.le_of_ble_eq_true rfl⟩) (preV_ro (wc := [oTe a (nI ey) (nI le), aI cI (a 12) 64 bd, aI cI (a 13) 64 bs]) hK hP [1, 2, 3] rfl 5 1 rfl rfl rfl) rfl rfl hl.1 rfl (lv_room (Nat.le_of_ble_eq_true rfl)) dX7_factor_24 ⟨Nat.zero_le _, Nat.zero_le _⟩) ?_
    refine crw_i (va_runV (As := [.int (nI 6), .int (oI (fc t le j_x j_y))]) (rest := []) ⟨hx, hb, hml, hown, hts⟩ (c_X7_answerOr l G cI cJ (a := a) (oc := oc) (w := 6) (k := fc t le j_x j_y) (h1 := by have := fc_le t le j_x j_y; omega)) (cwV 2 hts gX7_factor_X7_answerOr rfl rfl rfl (by decide +kernel) ⟨Nat.le_of_ble_eq_true rfl, Nat.le_of_ble_eq_true rfl⟩) (preV_rw (wc := [oX a oc]) hK hP hD [0] rfl rfl 7 0 rfl rfl rfl) rfl rfl hl.1 rfl (lv_room (Nat.le_of_ble_eq_true rfl)) dX7_factor_27 ⟨Nat.zero_le _, Nat.zero_le _⟩) hP hD hS [0] rfl [a 0] (fun u => rfl) rfl (fun r_27 u_ H locs hw_27 hP hD hS => ?_)
    have hP : va_P G vwCl [oX a (nI (if (fc t le j_x j_y) = 0 then 6 else 0)), oTe a (nI ey) (nI le), aI cI (a 12) 64 bd, aI cI (a 13) 64 bs] H := hP
    have hD : va_D A [oX a (nI (if (fc t le j_x j_y) = 0 then 6 else 0)), oTe a (nI ey) (nI le), aI cI (a 12) 64 bd, aI cI (a 13) 64 bs] := hD
    refine toi hw_27 ?_
    have hP : va_P G vwCl [oX a (nI (qFactor t ey le (nI j_x) (nI j_y))), oTe a (nI ey) (nI le), aI cI (a 12) 64 bd, aI cI (a 13) 64 bs] H := by
      have ew : ([oX a (nI (if (fc t le j_x j_y) = 0 then 6 else 0)), oTe a (nI ey) (nI le), aI cI (a 12) 64 bd, aI cI (a 13) 64 bs] : va_W) = [oX a (nI (qFactor t ey le (nI j_x) (nI j_y))), oTe a (nI ey) (nI le), aI cI (a 12) 64 bd, aI cI (a 13) 64 bs] := (wvC (congrArg (fun zz => oX a zz) (show nI (if (fc t le j_x j_y) = 0 then 6 else 0) = nI (qFactor t ey le (nI j_x) (nI j_y)) from (congrArg nI (show (if (fc t le j_x j_y) = 0 then 6 else 0) = (qFactor t ey le (nI j_x) (nI j_y)) from by first | rfl | (simp only [rFactor, qFactor, pr, cif_T, cif_F, ctold, c_6, e_x, e_y]; done) | (simp [rFactor, qFactor, pr, cif_T, cif_F, ctold, c_6, e_x, e_y]; done) | omega | (simp [rFactor, qFactor, pr, cif_T, cif_F, ctold, c_6, e_x, e_y]; omega))))) (wvC rfl (wvC rfl (wvC rfl rfl))))
      rw [← ew]; exact hP
    exact W.iret (v := oI (fc t le j_x j_y)) hx hb hr (fun zt ht zw => ⟨⟨_, (), rfl, (congrArg oI (show (fc t le j_x j_y) = (rFactor t ey le (nI j_x) (nI j_y)) from by first | rfl | (simp only [rFactor, qFactor, pr, cif_T, cif_F, ctold, c_6, e_x, e_y]; done) | (simp [rFactor, qFactor, pr, cif_T, cif_F, ctold, c_6, e_x, e_y]; done) | omega | (simp [rFactor, qFactor, pr, cif_T, cif_F, ctold, c_6, e_x, e_y]; omega))), by show va_P _ _ _ zt.heap; rw [ht]; exact hP⟩, by rw [hAe]; exact hS.F ht⟩) hS.2.2 dX7_factor_30
  refine lv_aload_n hx hb dX7_factor_9 rfl (lv_at hl 0 rfl) ?_
  refine lv_iconst (v := nI 1) hx hb dX7_factor_10 (by decide) ?_
  refine crw_i (va_runV (As := [.int (nI 1)]) (rest := []) ⟨hx, hb, hml, hown, hts⟩ (c_X7_lack l G cI cJ (a := a) (oc := oc) (w := nI 1) ) (cwV 1 hts gX7_factor_X7_lack rfl rfl rfl (by decide +kernel) ⟨Nat.le_of_ble_eq_true rfl, Nat.le_of_ble_eq_true rfl⟩) (preV_rw (wc := [oX a oc]) hK hP hD [0] rfl rfl 7 0 rfl rfl rfl) rfl rfl hl.1 rfl (lv_room (Nat.le_of_ble_eq_true rfl)) dX7_factor_11 ⟨Nat.zero_le _, Nat.zero_le _⟩) hP hD hS [0] rfl [a 0] (fun u => rfl) rfl (fun r_11 u_ H locs hw_11 hP hD hS => ?_)
  have hP : va_P G vwCl [oX a (nI 1), oTe a (nI ey) (nI le), aI cI (a 12) 64 bd, aI cI (a 13) 64 bs] H := hP
  have hD : va_D A [oX a (nI 1), oTe a (nI ey) (nI le), aI cI (a 12) 64 bd, aI cI (a 13) 64 bs] := hD
  refine toi hw_11 ?_
  have hP : va_P G vwCl [oX a (nI (qFactor t ey le x y)), oTe a (nI ey) (nI le), aI cI (a 12) 64 bd, aI cI (a 13) 64 bs] H := by
    have ew : ([oX a (nI 1), oTe a (nI ey) (nI le), aI cI (a 12) 64 bd, aI cI (a 13) 64 bs] : va_W) = [oX a (nI (qFactor t ey le x y)), oTe a (nI ey) (nI le), aI cI (a 12) 64 bd, aI cI (a 13) 64 bs] := (wvC (congrArg (fun zz => oX a zz) (show nI 1 = nI (qFactor t ey le x y) from (congrArg nI (show 1 = (qFactor t ey le x y) from by first | rfl | (simp only [rFactor, qFactor, pr, cif_T, cif_F, ctold, c_6]; done) | (simp [rFactor, qFactor, pr, cif_T, cif_F, ctold, c_6]; done) | omega | (simp [rFactor, qFactor, pr, cif_T, cif_F, ctold, c_6]; omega))))) (wvC rfl (wvC rfl (wvC rfl rfl))))
    rw [← ew]; exact hP
  exact W.iret (v := (-1)) hx hb hr (fun zt ht zw => ⟨⟨_, (), rfl, (m1_o.trans (congrArg oI (show 0 = (rFactor t ey le x y) from by first | rfl | (simp only [rFactor, qFactor, pr, cif_T, cif_F, ctold, c_6]; done) | (simp [rFactor, qFactor, pr, cif_T, cif_F, ctold, c_6]; done) | omega | (simp [rFactor, qFactor, pr, cif_T, cif_F, ctold, c_6]; omega)))), by show va_P _ _ _ zt.heap; rw [ht]; exact hP⟩, by rw [hAe]; exact hS.F ht⟩) hS.2.2 dX7_factor_14
