set_option maxHeartbeats 400000 in
set_option maxRecDepth 100000 in
theorem c_X8_tells (l : Launch) (G : va_G) (cI cJ : ClassId) (b : Nat → Nat) (st : Int32) (tp : Int64) (bt : Int64) (ey : Nat) (le : Nat) (en : Int32) (wo : Nat) (t : Nat → Nat) (u : Nat → Nat) (gr : Nat → Int32) (sp : Nat → Int32) (x : Nat) (d : Nat) (tb : TB t) (hey : ey ≤ 8) (hG : GM t ey gr sp) (hu : UW t u wo) (hwo : wo ≤ 8) (h_x : x < ey) (h_d : d < 240) : Met l yX8_tells wsX8_tells ({ frames := 1, cells := 0, slots := 0, locals := 21 }) (roP G cI cJ [.ref (b 0), .int (nI x), .int (nI d)] [oM b st tp bt (nI ey) (nI le) en (oI wo), aI cI (b 4) 1920 gr]) (vp_Si (fun r => r = bi (u (x * 240 + d) ≠ 0))) 0 0 (fun _ => False) := by
  refine Met.ofW (cc := cX8_tells) (maxL := 3) (ret := (some .boolean)) (by decide) rfl ?_
  intro pg ev s mt args below meth cd s₁ B hml hv
  obtain ⟨rfl, hP, hK⟩ := hv
  have hx := B.exec
  have hb := B.bytes
  have hr := B.returns
  have hts := atoms_spec (ws := wsX8_tells) B.pre
  have hown : s.vm.findClass RX8 = some mt.cls := findClass_of_methodNamed B.named
  have hlocks := B.notSynchronized
  have hP : va_P G vwCl [oM b st tp bt (nI ey) (nI le) en (oI wo), aI cI (b 4) 1920 gr] s.heap := hP
  have hinX8 := (show ∀ w ∈ u_ws RX8 TX8 23, w ∈ wsX8_tells by decide +kernel)
  have fl37 := hts (.fieldLink RX8 37 "SpotRowsModel" "without" "I") (by decide +kernel)
  have fl31 := hts (.fieldLink RX8 31 "SpotRowsModel" "groups" "[I") (by decide +kernel)
  have hl := lv_entry ([.ref (b 0), .int (nI x), .int (nI d)]) (n := 3) (Nat.le_of_ble_eq_true rfl)
  rw [lg_entry_eq]
  generalize (lg_sl ([.ref (b 0), .int (nI x), .int (nI d)]) ++ List.replicate (3 - (lg_sl ([.ref (b 0), .int (nI x), .int (nI d)])).length) Slot.unset).toArray = ls at hl ⊢
  have hl : lv_has ls 3 [(0, .ref (b 0)), (1, .int (nI x)), (2, .int (nI d))] := hl
  refine lv_iload_n hx hb dX8_tells_0 rfl (lv_at hl 1 rfl) ?_
  refine lv_aload_n hx hb dX8_tells_1 rfl (lv_at hl 0 rfl) ?_
  refine va_get (D := G) (own := RX8) (ref := "SpotRowsModel") (ci := 8) (v := .int (oI wo)) (C := RX8) (T := TX8) (N := 23) hx hb hts hinX8 hown hK.1 hP 0 rfl rfl 11 (by decide) fl37 (fun _ h9 => h9) rfl dX8_tells_2 ?_
  refine nno_icmp_eq (tgt := 26) hx hb dX8_tells_5 (by decide) (by first | omega | exact Nat.le_trans (og_le tb _) (by decide)) (by first | omega | exact Nat.le_trans (og_le tb _) (by decide)) (fun c_5 => ?_) (fun c_5 => ?_)
  · refine lv_iconst (v := nI 0) hx hb dX8_tells_26 (by decide) ?_
    exact W.zret (v := nI 0) hx hb hr rfl (fun zt ht zw => ⟨_, rfl, (show nI 0 = bi (u (x * 240 + d) ≠ 0) from (bi_f (by rw [UW_ne hu h_d]; first | exact ⟨c_5, fun h => c_19 (og_eq.mpr h)⟩ | exact (fun h => h.1 c_5) | exact (fun h => h.2 (og_eq.mp c_19)))).symm), ht⟩) (fun q hq => absurd hq List.not_mem_nil) dX8_tells_27
  refine lv_aload_n hx hb dX8_tells_8 rfl (lv_at hl 0 rfl) ?_
  refine va_get (D := G) (own := RX8) (ref := "SpotRowsModel") (ci := 8) (v := .ref (b 4)) (C := RX8) (T := TX8) (N := 23) hx hb hts hinX8 hown hK.1 hP 0 rfl rfl 9 (by decide) fl31 (fun _ h9 => h9) rfl dX8_tells_9 ?_
  refine lv_iload_n hx hb dX8_tells_12 rfl (lv_at hl 1 rfl) ?_
  refine lv_iload_n hx hb dX8_tells_13 rfl (lv_at hl 2 rfl) ?_
  refine cro_i (va_runS (As := [.int (nI x), .int (nI d)]) (rest := [.ref (b 4)]) ⟨hx, hb, hml, hown, hts⟩ (c_X8_at l G cI cJ (x := x) (d := d) ) (va_cwS 2 hts gX8_tells_X8_at rfl rfl rfl (by decide +kernel) ⟨Nat.le_of_ble_eq_true rfl, Nat.le_of_ble_eq_true rfl⟩) (preS_ro (wc := []) hK hP [] rfl) rfl rfl hl.1 rfl (lv_room (Nat.le_of_ble_eq_true rfl)) dX8_tells_14 ⟨Nat.zero_le _, Nat.zero_le _⟩) ?_
  refine ld_I hx hb hK hP 1 (k := x * 240 + d) rfl (by first | omega | exact Nat.le_trans (og_le tb _) (by decide)) (by decide) dX8_tells_17 ?_
  refine toi (show gr (x * 240 + d) = oI (og t (x * 240 + d)) from (hG.1 (x * 240 + d) (by omega))) ?_
  refine lv_iconst (v := (-1)) hx hb dX8_tells_18 (by decide) ?_
  refine no_icmp_eq (tgt := 26) hx hb dX8_tells_19 (by decide) (by first | omega | exact Nat.le_trans (og_le tb _) (by decide)) (fun c_19 => ?_) (fun c_19 => ?_)
  · refine lv_iconst (v := nI 0) hx hb dX8_tells_26 (by decide) ?_
    exact W.zret (v := nI 0) hx hb hr rfl (fun zt ht zw => ⟨_, rfl, (show nI 0 = bi (u (x * 240 + d) ≠ 0) from (bi_f (by rw [UW_ne hu h_d]; first | exact ⟨c_5, fun h => c_19 (og_eq.mpr h)⟩ | exact (fun h => h.1 c_5) | exact (fun h => h.2 (og_eq.mp c_19)))).symm), ht⟩) (fun q hq => absurd hq List.not_mem_nil) dX8_tells_27
  refine lv_iconst (v := nI 1) hx hb dX8_tells_22 (by decide) ?_
  refine lv_goto (tgt := 27) hx hb dX8_tells_23 (by decide) ?_
  exact W.zret (v := nI 1) hx hb hr rfl (fun zt ht zw => ⟨_, rfl, (show nI 1 = bi (u (x * 240 + d) ≠ 0) from (bi_t (by rw [UW_ne hu h_d]; first | exact ⟨c_5, fun h => c_19 (og_eq.mpr h)⟩ | exact (fun h => h.1 c_5) | exact (fun h => h.2 (og_eq.mp c_19)))).symm), ht⟩) (fun q hq => absurd hq List.not_mem_nil) dX8_tells_27

set_option maxHeartbeats 400000 in
set_option maxRecDepth 100000 in
theorem c_X8_areBoth (l : Launch) (G : va_G) (cI cJ : ClassId) (b : Nat → Nat) (st : Int32) (tp : Int64) (bt : Int64) (ey : Nat) (le : Nat) (en : Int32) (wo : Nat) (t : Nat → Nat) (u : Nat → Nat) (gr : Nat → Int32) (sp : Nat → Int32) (x : Nat) (y : Nat) (d : Nat) (tb : TB t) (hey : ey ≤ 8) (hG : GM t ey gr sp) (hu : UW t u wo) (hwo : wo ≤ 8) (h_x : x < ey) (h_y : y < ey) (h_d : d < 240) : Met l yX8_areBoth wsX8_areBoth ({ frames := 2, cells := 0, slots := 0, locals := 43 }) (roP G cI cJ [.ref (b 0), .int (nI x), .int (nI y), .int (nI d)] [oM b st tp bt (nI ey) (nI le) en (oI wo), aI cI (b 4) 1920 gr]) (vp_Si (fun r => r = bi (bo u x y d))) 0 0 (fun _ => False) := by
  refine Met.ofW (cc := cX8_areBoth) (maxL := 4) (ret := (some .boolean)) (by decide) rfl ?_
  intro pg ev s mt args below meth cd s₁ B hml hv
  obtain ⟨rfl, hP, hK⟩ := hv
  have hx := B.exec
  have hb := B.bytes
  have hr := B.returns
  have hts := atoms_spec (ws := wsX8_areBoth) B.pre
  have hown : s.vm.findClass RX8 = some mt.cls := findClass_of_methodNamed B.named
  have hlocks := B.notSynchronized
  have hP : va_P G vwCl [oM b st tp bt (nI ey) (nI le) en (oI wo), aI cI (b 4) 1920 gr] s.heap := hP
  have hl := lv_entry ([.ref (b 0), .int (nI x), .int (nI y), .int (nI d)]) (n := 4) (Nat.le_of_ble_eq_true rfl)
  rw [lg_entry_eq]
  generalize (lg_sl ([.ref (b 0), .int (nI x), .int (nI y), .int (nI d)]) ++ List.replicate (4 - (lg_sl ([.ref (b 0), .int (nI x), .int (nI y), .int (nI d)])).length) Slot.unset).toArray = ls at hl ⊢
  have hl : lv_has ls 4 [(0, .ref (b 0)), (1, .int (nI x)), (2, .int (nI y)), (3, .int (nI d))] := hl
  refine lv_aload_n hx hb dX8_areBoth_0 rfl (lv_at hl 0 rfl) ?_
  refine lv_iload_n hx hb dX8_areBoth_1 rfl (lv_at hl 1 rfl) ?_
  refine lv_iload_n hx hb dX8_areBoth_2 rfl (lv_at hl 3 rfl) ?_
  refine cro_i (va_runV (As := [.int (nI x), .int (nI d)]) (rest := []) ⟨hx, hb, hml, hown, hts⟩ (c_X8_tells l G cI cJ (b := b) (st := st) (tp := tp) (bt := bt) (ey := ey) (le := le) (en := en) (wo := wo) (t := t) (u := u) (gr := gr) (sp := sp) (x := x) (d := d) (tb := by first | assumption | omega) (hey := by first | assumption | omega) (hG := by first | assumption | omega) (hu := by first | assumption | omega) (hwo := by first | assumption | omega) (h_x := by first | assumption | omega) (h_d := by first | assumption | omega)) (cwV 2 hts gX8_areBoth_X8_tells rfl rfl rfl (by decide +kernel) ⟨Nat.le_of_ble_eq_true rfl, Nat.le_of_ble_eq_true rfl⟩) (preV_ro (wc := [oM b st tp bt (nI ey) (nI le) en (oI wo), aI cI (b 4) 1920 gr]) hK hP [0, 1] rfl 8 0 rfl rfl rfl) rfl rfl hl.1 rfl (lv_room (Nat.le_of_ble_eq_true rfl)) dX8_areBoth_3 ⟨Nat.zero_le _, Nat.zero_le _⟩) ?_
  refine nb_if_eq (tgt := 22) hx hb dX8_areBoth_6 (by decide) (fun c_6 => ?_) (fun c_6 => ?_)
  · refine lv_iconst (v := nI 0) hx hb dX8_areBoth_22 (by decide) ?_
    exact W.zret (v := nI 0) hx hb hr rfl (fun zt ht zw => ⟨_, rfl, (show nI 0 = bi (bo u x y d) from (bi_f (by simp_all [bo])).symm), ht⟩) (fun q hq => absurd hq List.not_mem_nil) dX8_areBoth_23
  refine lv_aload_n hx hb dX8_areBoth_9 rfl (lv_at hl 0 rfl) ?_
  refine lv_iload_n hx hb dX8_areBoth_10 rfl (lv_at hl 2 rfl) ?_
  refine lv_iload_n hx hb dX8_areBoth_11 rfl (lv_at hl 3 rfl) ?_
  refine cro_i (va_runV (As := [.int (nI y), .int (nI d)]) (rest := []) ⟨hx, hb, hml, hown, hts⟩ (c_X8_tells l G cI cJ (b := b) (st := st) (tp := tp) (bt := bt) (ey := ey) (le := le) (en := en) (wo := wo) (t := t) (u := u) (gr := gr) (sp := sp) (x := y) (d := d) (tb := by first | assumption | omega) (hey := by first | assumption | omega) (hG := by first | assumption | omega) (hu := by first | assumption | omega) (hwo := by first | assumption | omega) (h_x := by first | assumption | omega) (h_d := by first | assumption | omega)) (cwV 2 hts gX8_areBoth_X8_tells rfl rfl rfl (by decide +kernel) ⟨Nat.le_of_ble_eq_true rfl, Nat.le_of_ble_eq_true rfl⟩) (preV_ro (wc := [oM b st tp bt (nI ey) (nI le) en (oI wo), aI cI (b 4) 1920 gr]) hK hP [0, 1] rfl 8 0 rfl rfl rfl) rfl rfl hl.1 rfl (lv_room (Nat.le_of_ble_eq_true rfl)) dX8_areBoth_12 ⟨Nat.zero_le _, Nat.zero_le _⟩) ?_
  refine nb_if_eq (tgt := 22) hx hb dX8_areBoth_15 (by decide) (fun c_15 => ?_) (fun c_15 => ?_)
  · refine lv_iconst (v := nI 0) hx hb dX8_areBoth_22 (by decide) ?_
    exact W.zret (v := nI 0) hx hb hr rfl (fun zt ht zw => ⟨_, rfl, (show nI 0 = bi (bo u x y d) from (bi_f (by simp_all [bo])).symm), ht⟩) (fun q hq => absurd hq List.not_mem_nil) dX8_areBoth_23
  refine lv_iconst (v := nI 1) hx hb dX8_areBoth_18 (by decide) ?_
  refine lv_goto (tgt := 23) hx hb dX8_areBoth_19 (by decide) ?_
  exact W.zret (v := nI 1) hx hb hr rfl (fun zt ht zw => ⟨_, rfl, (show nI 1 = bi (bo u x y d) from (bi_t (by simp_all [bo])).symm), ht⟩) (fun q hq => absurd hq List.not_mem_nil) dX8_areBoth_23

set_option maxHeartbeats 400000 in
set_option maxRecDepth 100000 in
theorem c_X8_bothOf (l : Launch) (G : va_G) (cI cJ : ClassId) (b : Nat → Nat) (st : Int32) (tp : Int64) (bt : Int64) (ey : Nat) (le : Nat) (en : Int32) (wo : Nat) (t : Nat → Nat) (u : Nat → Nat) (gr : Nat → Int32) (sp : Nat → Int32) (x : Nat) (y : Nat) (tb : TB t) (hey : ey ≤ 8) (hG : GM t ey gr sp) (hu : UW t u wo) (hwo : wo ≤ 8) (h_x : x < ey) (h_y : y < ey) : Met l yX8_bothOf wsX8_bothOf ({ frames := 3, cells := 0, slots := 0, locals := 66 }) (roP G cI cJ [.ref (b 0), .int (nI x), .int (nI y)] [oM b st tp bt (nI ey) (nI le) en (oI wo), aI cI (b 4) 1920 gr]) (vp_Si (fun r => r = nI (cB u x y 240))) 0 0 (fun _ => False) := by
  refine Met.ofW (cc := cX8_bothOf) (maxL := 5) (ret := (some .int)) (by decide) rfl ?_
  intro pg ev s mt args below meth cd s₁ B hml hv
  obtain ⟨rfl, hP, hK⟩ := hv
  have hx := B.exec
  have hb := B.bytes
  have hr := B.returns
  have hts := atoms_spec (ws := wsX8_bothOf) B.pre
  have hown : s.vm.findClass RX8 = some mt.cls := findClass_of_methodNamed B.named
  have hlocks := B.notSynchronized
  have hP : va_P G vwCl [oM b st tp bt (nI ey) (nI le) en (oI wo), aI cI (b 4) 1920 gr] s.heap := hP
  have hl := lv_entry ([.ref (b 0), .int (nI x), .int (nI y)]) (n := 5) (Nat.le_of_ble_eq_true rfl)
  rw [lg_entry_eq]
  generalize (lg_sl ([.ref (b 0), .int (nI x), .int (nI y)]) ++ List.replicate (5 - (lg_sl ([.ref (b 0), .int (nI x), .int (nI y)])).length) Slot.unset).toArray = ls at hl ⊢
  have hl : lv_has ls 5 [(0, .ref (b 0)), (1, .int (nI x)), (2, .int (nI y))] := hl
  refine lv_iconst (v := nI 0) hx hb dX8_bothOf_0 (by decide) ?_
  refine lv_istore_n (lv' := [(3, .int (nI 0)), (0, .ref (b 0)), (1, .int (nI x)), (2, .int (nI y))]) hx hb dX8_bothOf_1 rfl hl (by decide) rfl (fun ls hl => ?_)
  refine lv_iconst (v := nI 0) hx hb dX8_bothOf_2 (by decide) ?_
  refine lv_istore (lv' := [(4, .int (nI 0)), (3, .int (nI 0)), (0, .ref (b 0)), (1, .int (nI x)), (2, .int (nI y))]) hx hb dX8_bothOf_3 hl (by decide) rfl (fun ls hl => ?_)
  have lp_5 : ∀ (nf : Nat) (k : Nat), (k ≤ 240) → 240 - k < nf → ∀ (ls : Array Slot), lv_has ls 5 [(0, .ref (b 0)), (1, .int (nI x)), (2, .int (nI y)), (3, .int (nI (cB u x y k))), (4, .int (nI k))] → W pg l ev (headSpec wsX8_bothOf ({ frames := 3, cells := 0, slots := 0, locals := 66 })).room s mt ([.ref (b 0), .int (nI x), .int (nI y)] : List Value).toArray below meth cd s.heap [] 0 0 (MQ below (vp_Si (fun r => r = nI (cB u x y 240))) ([.ref (b 0), .int (nI x), .int (nI y)] : List Value).toArray s 0 0 (fun _ => False)) (F0 mt 5 ls []) := by
    intro nf
    induction nf with
    | zero => intro k hk hfu; exact absurd hfu (Nat.not_lt_zero _)
    | succ nf ih_5 =>
      intro k hk hfu ls hl
      have f1 := cB_le u x y k
      refine lv_iload hx hb dX8_bothOf_5 (lv_at hl 4 rfl) ?_
      refine lv_sipush (v := nI 240) hx hb dX8_bothOf_7 (by decide) ?_
      refine nv_icmp_ge (tgt := 38) hx hb dX8_bothOf_10 (by decide) (by omega) (by omega) (fun c_10 => ?_) (fun c_10 => ?_)
      · refine lv_iload_n hx hb dX8_bothOf_38 rfl (lv_at hl 3 rfl) ?_
        exact W.iret (v := nI (cB u x y k)) hx hb hr (fun zt ht zw => ⟨_, rfl, (congrArg nI (show (cB u x y k) = (cB u x y 240) from by rw [show k = 240 from by omega])), ht⟩) (fun q hq => absurd hq List.not_mem_nil) dX8_bothOf_39
      refine lv_iload_n hx hb dX8_bothOf_13 rfl (lv_at hl 3 rfl) ?_
      refine lv_aload_n hx hb dX8_bothOf_14 rfl (lv_at hl 0 rfl) ?_
      refine lv_iload_n hx hb dX8_bothOf_15 rfl (lv_at hl 1 rfl) ?_
      refine lv_iload_n hx hb dX8_bothOf_16 rfl (lv_at hl 2 rfl) ?_
      refine lv_iload hx hb dX8_bothOf_17 (lv_at hl 4 rfl) ?_
      refine cro_i (va_runV (As := [.int (nI x), .int (nI y), .int (nI k)]) (rest := [.int (nI (cB u x y k))]) ⟨hx, hb, hml, hown, hts⟩ (c_X8_areBoth l G cI cJ (b := b) (st := st) (tp := tp) (bt := bt) (ey := ey) (le := le) (en := en) (wo := wo) (t := t) (u := u) (gr := gr) (sp := sp) (x := x) (y := y) (d := k) (tb := by first | assumption | omega) (hey := by first | assumption | omega) (hG := by first | assumption | omega) (hu := by first | assumption | omega) (hwo := by first | assumption | omega) (h_x := by first | assumption | omega) (h_y := by first | assumption | omega) (h_d := by first | assumption | omega)) (cwV 3 hts gX8_bothOf_X8_areBoth rfl rfl rfl (by decide +kernel) ⟨Nat.le_of_ble_eq_true rfl, Nat.le_of_ble_eq_true rfl⟩) (preV_ro (wc := [oM b st tp bt (nI ey) (nI le) en (oI wo), aI cI (b 4) 1920 gr]) hK hP [0, 1] rfl 8 0 rfl rfl rfl) rfl rfl hl.1 rfl (lv_room (Nat.le_of_ble_eq_true rfl)) dX8_bothOf_19 ⟨Nat.zero_le _, Nat.zero_le _⟩) ?_
      refine nb_if_eq (tgt := 29) hx hb dX8_bothOf_22 (by decide) (fun c_22 => ?_) (fun c_22 => ?_)
      · refine lv_iconst (v := nI 0) hx hb dX8_bothOf_29 (by decide) ?_
        refine lv_iadd hx hb dX8_bothOf_30 ?_
        refine toi (nI_add (cB u x y k) 0) ?_
        refine lv_istore_n (lv' := [(3, .int (nI (cB u x y k + 0))), (0, .ref (b 0)), (1, .int (nI x)), (2, .int (nI y)), (4, .int (nI k))]) hx hb dX8_bothOf_31 rfl hl (by decide) rfl (fun ls hl => ?_)
        refine lv_iinc (v := nI (k + 1)) (lv' := [(4, .int (nI (k + 1))), (3, .int (nI (cB u x y k + 0))), (0, .ref (b 0)), (1, .int (nI x)), (2, .int (nI y))]) hx hb dX8_bothOf_32 hl (k := 4) rfl (nI_add k 1) (by decide) rfl (fun ls hl => ?_)
        refine lv_goto (tgt := 5) hx hb dX8_bothOf_35 (by decide) ?_
        exact ih_5 (k + 1) (by first | rfl | omega | (simp_all; done)) (by omega) ls (lvcv (l := [(0, .ref (b 0)), (1, .int (nI x)), (2, .int (nI y)), (3, .int (nI (cB u x y k + 0))), (4, .int (nI (k + 1)))]) (lv_sub hl [2, 3, 4, 1, 0] rfl) (lvC (lvC (lvC (lvI (congrArg nI (show (cB u x y k + 0) = (cB u x y (k + 1)) from by show _ = cB u x y k + (if bo u x y k then 1 else 0); first | rw [if_pos c_22] | rw [if_neg c_22])) (lvC rfl))))))
      refine lv_iconst (v := nI 1) hx hb dX8_bothOf_25 (by decide) ?_
      refine lv_goto (tgt := 30) hx hb dX8_bothOf_26 (by decide) ?_
      refine lv_iadd hx hb dX8_bothOf_30 ?_
      refine toi (nI_add (cB u x y k) 1) ?_
      refine lv_istore_n (lv' := [(3, .int (nI (cB u x y k + 1))), (0, .ref (b 0)), (1, .int (nI x)), (2, .int (nI y)), (4, .int (nI k))]) hx hb dX8_bothOf_31 rfl hl (by decide) rfl (fun ls hl => ?_)
      refine lv_iinc (v := nI (k + 1)) (lv' := [(4, .int (nI (k + 1))), (3, .int (nI (cB u x y k + 1))), (0, .ref (b 0)), (1, .int (nI x)), (2, .int (nI y))]) hx hb dX8_bothOf_32 hl (k := 4) rfl (nI_add k 1) (by decide) rfl (fun ls hl => ?_)
      refine lv_goto (tgt := 5) hx hb dX8_bothOf_35 (by decide) ?_
      exact ih_5 (k + 1) (by first | rfl | omega | (simp_all; done)) (by omega) ls (lvcv (l := [(0, .ref (b 0)), (1, .int (nI x)), (2, .int (nI y)), (3, .int (nI (cB u x y k + 1))), (4, .int (nI (k + 1)))]) (lv_sub hl [2, 3, 4, 1, 0] rfl) (lvC (lvC (lvC (lvI (congrArg nI (show (cB u x y k + 1) = (cB u x y (k + 1)) from by show _ = cB u x y k + (if bo u x y k then 1 else 0); first | rw [if_pos c_22] | rw [if_neg c_22])) (lvC rfl))))))
  exact lp_5 (240 - 0 + 1) 0 (by first | rfl | omega | (simp_all; done)) (by omega) ls (lvcv (l := [(0, .ref (b 0)), (1, .int (nI x)), (2, .int (nI y)), (3, .int (nI 0)), (4, .int (nI 0))]) (lv_sub hl [2, 3, 4, 1, 0] rfl) (lvC (lvC (lvC (lvI (congrArg nI (show 0 = (cB u x y 0) from by rfl)) (lvC rfl))))))

set_option maxHeartbeats 400000 in
set_option maxRecDepth 100000 in
theorem c_X8_areTwo (l : Launch) (G : va_G) (cI cJ : ClassId) (b : Nat → Nat) (st : Int32) (tp : Int64) (bt : Int64) (ey : Nat) (le : Int32) (en : Int32) (wo : Int32) (x : Int32) (y : Int32) (hey : ey ≤ 8) : Met l yX8_areTwo wsX8_areTwo ({ frames := 1, cells := 0, slots := 0, locals := 21 }) (roP G cI cJ [.ref (b 0), .int x, .int y] [oM b st tp bt (nI ey) le en wo]) (vp_Si (fun r => r = bi (rg x ey ∧ rg y ey ∧ x ≠ y))) 0 0 (fun _ => False) := by
  refine Met.ofW (cc := cX8_areTwo) (maxL := 3) (ret := (some .boolean)) (by decide) rfl ?_
  intro pg ev s mt args below meth cd s₁ B hml hv
  obtain ⟨rfl, hP, hK⟩ := hv
  have hx := B.exec
  have hb := B.bytes
  have hr := B.returns
  have hts := atoms_spec (ws := wsX8_areTwo) B.pre
  have hown : s.vm.findClass RX8 = some mt.cls := findClass_of_methodNamed B.named
  have hlocks := B.notSynchronized
  have hP : va_P G vwCl [oM b st tp bt (nI ey) le en wo] s.heap := hP
  have hl := lv_entry ([.ref (b 0), .int x, .int y]) (n := 3) (Nat.le_of_ble_eq_true rfl)
  rw [lg_entry_eq]
  generalize (lg_sl ([.ref (b 0), .int x, .int y]) ++ List.replicate (3 - (lg_sl ([.ref (b 0), .int x, .int y])).length) Slot.unset).toArray = ls at hl ⊢
  have hl : lv_has ls 3 [(0, .ref (b 0)), (1, .int x), (2, .int y)] := hl
  refine lv_aload_n hx hb dX8_areTwo_0 rfl (lv_at hl 0 rfl) ?_
  refine lv_iload_n hx hb dX8_areTwo_1 rfl (lv_at hl 1 rfl) ?_
  refine cro_i (va_runV (As := [.int x]) (rest := []) ⟨hx, hb, hml, hown, hts⟩ (c_X8_isEye l G cI cJ (b := b) (st := st) (tp := tp) (bt := bt) (ey := ey) (le := le) (en := en) (wo := wo) (x := x) (hey := by first | assumption | omega)) (cwV 1 hts gX8_areTwo_X8_isEye rfl rfl rfl (by decide +kernel) ⟨Nat.le_of_ble_eq_true rfl, Nat.le_of_ble_eq_true rfl⟩) (preV_ro (wc := [oM b st tp bt (nI ey) le en wo]) hK hP [0] rfl 8 0 rfl rfl rfl) rfl rfl hl.1 rfl (lv_room (Nat.le_of_ble_eq_true rfl)) dX8_areTwo_2 ⟨Nat.zero_le _, Nat.zero_le _⟩) ?_
  refine nb_if_eq (tgt := 25) hx hb dX8_areTwo_5 (by decide) (fun c_5 => ?_) (fun c_5 => ?_)
  · refine lv_iconst (v := nI 0) hx hb dX8_areTwo_25 (by decide) ?_
    exact W.zret (v := nI 0) hx hb hr rfl (fun zt ht zw => ⟨_, rfl, (show nI 0 = bi (rg x ey ∧ rg y ey ∧ x ≠ y) from (bi_f (by first | exact ⟨c_5, c_13, c_18⟩ | exact (fun h => c_5 h.1) | exact (fun h => c_13 h.2.1) | exact (fun h => h.2.2 c_18))).symm), ht⟩) (fun q hq => absurd hq List.not_mem_nil) dX8_areTwo_26
  refine lv_aload_n hx hb dX8_areTwo_8 rfl (lv_at hl 0 rfl) ?_
  refine lv_iload_n hx hb dX8_areTwo_9 rfl (lv_at hl 2 rfl) ?_
  refine cro_i (va_runV (As := [.int y]) (rest := []) ⟨hx, hb, hml, hown, hts⟩ (c_X8_isEye l G cI cJ (b := b) (st := st) (tp := tp) (bt := bt) (ey := ey) (le := le) (en := en) (wo := wo) (x := y) (hey := by first | assumption | omega)) (cwV 1 hts gX8_areTwo_X8_isEye rfl rfl rfl (by decide +kernel) ⟨Nat.le_of_ble_eq_true rfl, Nat.le_of_ble_eq_true rfl⟩) (preV_ro (wc := [oM b st tp bt (nI ey) le en wo]) hK hP [0] rfl 8 0 rfl rfl rfl) rfl rfl hl.1 rfl (lv_room (Nat.le_of_ble_eq_true rfl)) dX8_areTwo_10 ⟨Nat.zero_le _, Nat.zero_le _⟩) ?_
  refine nb_if_eq (tgt := 25) hx hb dX8_areTwo_13 (by decide) (fun c_13 => ?_) (fun c_13 => ?_)
  · refine lv_iconst (v := nI 0) hx hb dX8_areTwo_25 (by decide) ?_
    exact W.zret (v := nI 0) hx hb hr rfl (fun zt ht zw => ⟨_, rfl, (show nI 0 = bi (rg x ey ∧ rg y ey ∧ x ≠ y) from (bi_f (by first | exact ⟨c_5, c_13, c_18⟩ | exact (fun h => c_5 h.1) | exact (fun h => c_13 h.2.1) | exact (fun h => h.2.2 c_18))).symm), ht⟩) (fun q hq => absurd hq List.not_mem_nil) dX8_areTwo_26
  refine lv_iload_n hx hb dX8_areTwo_16 rfl (lv_at hl 1 rfl) ?_
  refine lv_iload_n hx hb dX8_areTwo_17 rfl (lv_at hl 2 rfl) ?_
  refine lv_icmp_eq (tgt := 25) hx hb dX8_areTwo_18 (by decide) (fun c_18 => ?_) (fun c_18 => ?_)
  · refine lv_iconst (v := nI 0) hx hb dX8_areTwo_25 (by decide) ?_
    exact W.zret (v := nI 0) hx hb hr rfl (fun zt ht zw => ⟨_, rfl, (show nI 0 = bi (rg x ey ∧ rg y ey ∧ x ≠ y) from (bi_f (by first | exact ⟨c_5, c_13, c_18⟩ | exact (fun h => c_5 h.1) | exact (fun h => c_13 h.2.1) | exact (fun h => h.2.2 c_18))).symm), ht⟩) (fun q hq => absurd hq List.not_mem_nil) dX8_areTwo_26
  refine lv_iconst (v := nI 1) hx hb dX8_areTwo_21 (by decide) ?_
  refine lv_goto (tgt := 26) hx hb dX8_areTwo_22 (by decide) ?_
  exact W.zret (v := nI 1) hx hb hr rfl (fun zt ht zw => ⟨_, rfl, (show nI 1 = bi (rg x ey ∧ rg y ey ∧ x ≠ y) from (bi_t (by first | exact ⟨c_5, c_13, c_18⟩ | exact (fun h => c_5 h.1) | exact (fun h => c_13 h.2.1) | exact (fun h => h.2.2 c_18))).symm), ht⟩) (fun q hq => absurd hq List.not_mem_nil) dX8_areTwo_26

set_option maxHeartbeats 400000 in
set_option maxRecDepth 100000 in
theorem c_X8_both (l : Launch) (G : va_G) (cI cJ : ClassId) (b : Nat → Nat) (st : Int32) (tp : Int64) (bt : Int64) (ey : Nat) (le : Nat) (en : Int32) (t : Nat → Nat) (gr : Nat → Int32) (sp : Nat → Int32) (x : Int32) (y : Int32) (tb : TB t) (hey : ey ≤ 8) (hG : GM t ey gr sp) : Met l yX8_both wsX8_both ({ frames := 4, cells := 0, slots := 0, locals := 90 }) (rwP G cI cJ [.ref (b 0), .int x, .int y] [oM b st tp bt (nI ey) (nI le) en (oI 0), aI cI (b 4) 1920 gr]) (rwQi G [oM b st tp bt (nI ey) (nI le) en (oI 0), aI cI (b 4) 1920 gr] (fun (r : Int32) (_ : Unit) => r = oI (rBoth t ey x y)) (fun (_ : Unit) => [oM b (nI (q1 (pr ey x y))) tp bt (nI ey) (nI le) en (oI 0), aI cI (b 4) 1920 gr])) 0 0 (ads [oM b st tp bt (nI ey) (nI le) en (oI 0), aI cI (b 4) 1920 gr]) := by
  refine Met.ofW (cc := cX8_both) (maxL := 3) (ret := (some .int)) (by decide) rfl ?_
  intro pg ev s mt args below meth cd s₁ B hml hv
  obtain ⟨rfl, hP, hD0, hK⟩ := hv
  have hx := B.exec
  have hb := B.bytes
  have hr := B.returns
  have hts := atoms_spec (ws := wsX8_both) B.pre
  have hown : s.vm.findClass RX8 = some mt.cls := findClass_of_methodNamed B.named
  have hlocks := B.notSynchronized
  have hD := ads_self hD0
  generalize hAe : ads [oM b st tp bt (nI ey) (nI le) en (oI 0), aI cI (b 4) 1920 gr] = A at hD ⊢
  have hS : va_S A s.heap s.heap [] := va_S.rf
  have hP : va_P G vwCl [oM b st tp bt (nI ey) (nI le) en (oI 0), aI cI (b 4) 1920 gr] s.heap := hP
  have hinX8 := (show ∀ w ∈ u_ws RX8 TX8 23, w ∈ wsX8_both by decide +kernel)
  have fl73 := hts (.fieldLink RX8 73 "SpotRowsModel" "status" "I") (by decide +kernel)
  have hl := lv_entry ([.ref (b 0), .int x, .int y]) (n := 3) (Nat.le_of_ble_eq_true rfl)
  rw [lg_entry_eq]
  generalize (lg_sl ([.ref (b 0), .int x, .int y]) ++ List.replicate (3 - (lg_sl ([.ref (b 0), .int x, .int y])).length) Slot.unset).toArray = ls at hl ⊢
  have hl : lv_has ls 3 [(0, .ref (b 0)), (1, .int x), (2, .int y)] := hl
  refine lv_aload_n hx hb dX8_both_0 rfl (lv_at hl 0 rfl) ?_
  refine lv_iload_n hx hb dX8_both_1 rfl (lv_at hl 1 rfl) ?_
  refine lv_iload_n hx hb dX8_both_2 rfl (lv_at hl 2 rfl) ?_
  refine cro_i (va_runV (As := [.int x, .int y]) (rest := []) ⟨hx, hb, hml, hown, hts⟩ (c_X8_areTwo l G cI cJ (b := b) (st := st) (tp := tp) (bt := bt) (ey := ey) (le := nI le) (en := en) (wo := oI 0) (x := x) (y := y) (hey := by first | assumption | omega)) (cwV 2 hts gX8_both_X8_areTwo rfl rfl rfl (by decide +kernel) ⟨Nat.le_of_ble_eq_true rfl, Nat.le_of_ble_eq_true rfl⟩) (preV_ro (wc := [oM b st tp bt (nI ey) (nI le) en (oI 0)]) hK hP [0] rfl 8 0 rfl rfl rfl) rfl rfl hl.1 rfl (lv_room (Nat.le_of_ble_eq_true rfl)) dX8_both_3 ⟨Nat.zero_le _, Nat.zero_le _⟩) ?_
  refine nb_if_ne (tgt := 15) hx hb dX8_both_6 (by decide) (fun c_6 => ?_) (fun c_6 => ?_)
  · obtain ⟨j_x, h_x, rfl⟩ := rg_ex c_6.1
    have e_x := nn_nI (j := j_x) (by omega)
    obtain ⟨j_y, h_y, rfl⟩ := rg_ex c_6.2.1
    have e_y := nn_nI (j := j_y) (by omega)
    have ne_x_y : j_x ≠ j_y := fun h => c_6.2.2 (congrArg nI h)
    refine lv_aload_n hx hb dX8_both_15 rfl (lv_at hl 0 rfl) ?_
    refine lv_iconst (v := nI 0) hx hb dX8_both_16 (by decide) ?_
    refine va_put (D := G) (own := RX8) (ref := "SpotRowsModel") (ci := 8) (v := .int (nI 0)) (ty := .int) (C := RX8) (T := TX8) (N := 23) hx hb hts hinX8 tyX8 tyX8_ok nmX8 hown hK.1 hP hD hS 0 rfl rfl 0 (by decide) fl73 (fun _ h9 => h9) rfl (by decide +kernel) rfl rfl (Nat.le_of_ble_eq_true rfl) dX8_both_17 (fun H locs hP hD hS => ?_)
    have hP : va_P G vwCl [oM b (nI 0) tp bt (nI ey) (nI le) en (oI 0), aI cI (b 4) 1920 gr] H := hP
    have hD : va_D A [oM b (nI 0) tp bt (nI ey) (nI le) en (oI 0), aI cI (b 4) 1920 gr] := hD
    refine lv_aload_n hx hb dX8_both_20 rfl (lv_at hl 0 rfl) ?_
    refine lv_iload_n hx hb dX8_both_21 rfl (lv_at hl 1 rfl) ?_
    refine lv_iload_n hx hb dX8_both_22 rfl (lv_at hl 2 rfl) ?_
    refine cro_i (va_runV (As := [.int (nI j_x), .int (nI j_y)]) (rest := []) ⟨hx, hb, hml, hown, hts⟩ (c_X8_bothOf l G cI cJ (b := b) (st := nI 0) (tp := tp) (bt := bt) (ey := ey) (le := le) (en := en) (wo := 0) (t := t) (u := t) (gr := gr) (sp := sp) (x := j_x) (y := j_y) (tb := by first | assumption | omega) (hey := by first | assumption | omega) (hG := by first | assumption | omega) (hu := UW_0 t) (hwo := by omega) (h_x := by first | assumption | omega) (h_y := by first | assumption | omega)) (cwV 2 hts gX8_both_X8_bothOf rfl rfl rfl (by decide +kernel) ⟨Nat.le_of_ble_eq_true rfl, Nat.le_of_ble_eq_true rfl⟩) (preV_ro (wc := [oM b (nI 0) tp bt (nI ey) (nI le) en (oI 0), aI cI (b 4) 1920 gr]) hK hP [0, 1] rfl 8 0 rfl rfl rfl) rfl rfl hl.1 rfl (lv_room (Nat.le_of_ble_eq_true rfl)) dX8_both_23 ⟨Nat.zero_le _, Nat.zero_le _⟩) ?_
    have hP : va_P G vwCl [oM b (nI (q1 (pr ey (nI j_x) (nI j_y)))) tp bt (nI ey) (nI le) en (oI 0), aI cI (b 4) 1920 gr] H := by
      have ew : ([oM b (nI 0) tp bt (nI ey) (nI le) en (oI 0), aI cI (b 4) 1920 gr] : va_W) = [oM b (nI (q1 (pr ey (nI j_x) (nI j_y)))) tp bt (nI ey) (nI le) en (oI 0), aI cI (b 4) 1920 gr] := (wvC (congrArg (fun zz => oM b zz tp bt (nI ey) (nI le) en (oI 0)) (show nI 0 = nI (q1 (pr ey (nI j_x) (nI j_y))) from (congrArg nI (show 0 = (q1 (pr ey (nI j_x) (nI j_y))) from by first | rfl | (simp only [rBoth, q1, pr, cif_T, cif_F, ctold, c_6, e_x, e_y]; done) | (simp [rBoth, q1, pr, cif_T, cif_F, ctold, c_6, e_x, e_y]; done) | omega | (simp [rBoth, q1, pr, cif_T, cif_F, ctold, c_6, e_x, e_y]; omega))))) (wvC rfl rfl))
      rw [← ew]; exact hP
    exact W.iret (v := nI (cB t j_x j_y 240)) hx hb hr (fun zt ht zw => ⟨⟨_, (), rfl, ((nI_o (cB t j_x j_y 240)).trans (congrArg oI (show (cB t j_x j_y 240) + 1 = (rBoth t ey (nI j_x) (nI j_y)) from by first | rfl | (simp only [rBoth, q1, pr, cif_T, cif_F, ctold, c_6, e_x, e_y]; done) | (simp [rBoth, q1, pr, cif_T, cif_F, ctold, c_6, e_x, e_y]; done) | omega | (simp [rBoth, q1, pr, cif_T, cif_F, ctold, c_6, e_x, e_y]; omega)))), by show va_P _ _ _ zt.heap; rw [ht]; exact hP⟩, by rw [hAe]; exact hS.F ht⟩) hS.2.2 dX8_both_26
  refine lv_aload_n hx hb dX8_both_9 rfl (lv_at hl 0 rfl) ?_
  refine lv_iconst (v := nI 1) hx hb dX8_both_10 (by decide) ?_
  refine crw_i (va_runV (As := [.int (nI 1)]) (rest := []) ⟨hx, hb, hml, hown, hts⟩ (c_X8_refuse l G cI cJ (b := b) (st := st) (tp := tp) (bt := bt) (ey := ey) (le := nI le) (en := en) (wo := oI 0) (w := nI 1) ) (cwV 1 hts gX8_both_X8_refuse rfl rfl rfl (by decide +kernel) ⟨Nat.le_of_ble_eq_true rfl, Nat.le_of_ble_eq_true rfl⟩) (preV_rw (wc := [oM b st tp bt (nI ey) (nI le) en (oI 0)]) hK hP hD [0] rfl rfl 8 0 rfl rfl rfl) rfl rfl hl.1 rfl (lv_room (Nat.le_of_ble_eq_true rfl)) dX8_both_11 ⟨Nat.zero_le _, Nat.zero_le _⟩) hP hD hS [0] rfl [b 0] (fun u => rfl) rfl (fun r_11 u_ H locs hw_11 hP hD hS => ?_)
  have hP : va_P G vwCl [oM b (nI 1) tp bt (nI ey) (nI le) en (oI 0), aI cI (b 4) 1920 gr] H := hP
  have hD : va_D A [oM b (nI 1) tp bt (nI ey) (nI le) en (oI 0), aI cI (b 4) 1920 gr] := hD
  refine toi hw_11 ?_
  have hP : va_P G vwCl [oM b (nI (q1 (pr ey x y))) tp bt (nI ey) (nI le) en (oI 0), aI cI (b 4) 1920 gr] H := by
    have ew : ([oM b (nI 1) tp bt (nI ey) (nI le) en (oI 0), aI cI (b 4) 1920 gr] : va_W) = [oM b (nI (q1 (pr ey x y))) tp bt (nI ey) (nI le) en (oI 0), aI cI (b 4) 1920 gr] := (wvC (congrArg (fun zz => oM b zz tp bt (nI ey) (nI le) en (oI 0)) (show nI 1 = nI (q1 (pr ey x y)) from (congrArg nI (show 1 = (q1 (pr ey x y)) from by first | rfl | (simp only [rBoth, q1, pr, cif_T, cif_F, ctold, c_6]; done) | (simp [rBoth, q1, pr, cif_T, cif_F, ctold, c_6]; done) | omega | (simp [rBoth, q1, pr, cif_T, cif_F, ctold, c_6]; omega))))) (wvC rfl rfl))
    rw [← ew]; exact hP
  exact W.iret (v := (-1)) hx hb hr (fun zt ht zw => ⟨⟨_, (), rfl, (m1_o.trans (congrArg oI (show 0 = (rBoth t ey x y) from by first | rfl | (simp only [rBoth, q1, pr, cif_T, cif_F, ctold, c_6]; done) | (simp [rBoth, q1, pr, cif_T, cif_F, ctold, c_6]; done) | omega | (simp [rBoth, q1, pr, cif_T, cif_F, ctold, c_6]; omega)))), by show va_P _ _ _ zt.heap; rw [ht]; exact hP⟩, by rw [hAe]; exact hS.F ht⟩) hS.2.2 dX8_both_14

set_option maxHeartbeats 400000 in
set_option maxRecDepth 100000 in
theorem c_X8_factorOf (l : Launch) (G : va_G) (cI cJ : ClassId) (b : Nat → Nat) (st : Int32) (tp : Int64) (bt : Int64) (ey : Nat) (le : Nat) (en : Int32) (wo : Nat) (t : Nat → Nat) (u : Nat → Nat) (gr : Nat → Int32) (sp : Nat → Int32) (x : Nat) (y : Nat) (tb : TB t) (hey : ey ≤ 8) (hG : GM t ey gr sp) (hu : UW t u wo) (hwo : wo ≤ 8) (tbu : TB u) (h_x : x < ey) (h_y : y < ey) (hle : le ≤ 100) : Met l yX8_factorOf wsX8_factorOf ({ frames := 3, cells := 0, slots := 0, locals := 66 }) (roP G cI cJ [.ref (b 0), .int (nI x), .int (nI y)] [oM b st tp bt (nI ey) (nI le) en (oI wo), aI cI (b 4) 1920 gr, aI cI (b 5) 1920 sp]) (vp_Si (fun r => r = oI (fc u le x y))) 0 0 (fun _ => False) := by
  refine Met.ofW (cc := cX8_factorOf) (maxL := 10) (ret := (some .int)) (by decide) rfl ?_
  intro pg ev s mt args below meth cd s₁ B hml hv
  obtain ⟨rfl, hP, hK⟩ := hv
  have hx := B.exec
  have hb := B.bytes
  have hr := B.returns
  have hts := atoms_spec (ws := wsX8_factorOf) B.pre
  have hown : s.vm.findClass RX8 = some mt.cls := findClass_of_methodNamed B.named
  have hlocks := B.notSynchronized
  have hP : va_P G vwCl [oM b st tp bt (nI ey) (nI le) en (oI wo), aI cI (b 4) 1920 gr, aI cI (b 5) 1920 sp] s.heap := hP
  have hinX8 := (show ∀ w ∈ u_ws RX8 TX8 23, w ∈ wsX8_factorOf by decide +kernel)
  have fl24 := hts (.fieldLink RX8 24 "SpotRowsModel" "least" "I") (by decide +kernel)
  have hl := lv_entry ([.ref (b 0), .int (nI x), .int (nI y)]) (n := 10) (Nat.le_of_ble_eq_true rfl)
  rw [lg_entry_eq]
  generalize (lg_sl ([.ref (b 0), .int (nI x), .int (nI y)]) ++ List.replicate (10 - (lg_sl ([.ref (b 0), .int (nI x), .int (nI y)])).length) Slot.unset).toArray = ls at hl ⊢
  have hl : lv_has ls 10 [(0, .ref (b 0)), (1, .int (nI x)), (2, .int (nI y))] := hl
  refine lv_lconst (v := lN 0) hx hb dX8_factorOf_0 (by decide) ?_
  refine lv_lstore_n (lv' := [(3, .long (lN 0)), (0, .ref (b 0)), (1, .int (nI x)), (2, .int (nI y))]) hx hb dX8_factorOf_1 rfl hl (by decide) rfl (fun ls hl => ?_)
  refine lv_lconst (v := lN 0) hx hb dX8_factorOf_2 (by decide) ?_
  refine lv_lstore (lv' := [(5, .long (lN 0)), (3, .long (lN 0)), (0, .ref (b 0)), (1, .int (nI x)), (2, .int (nI y))]) hx hb dX8_factorOf_3 hl (by decide) rfl (fun ls hl => ?_)
  refine lv_iconst (v := nI 0) hx hb dX8_factorOf_5 (by decide) ?_
  refine lv_istore (lv' := [(7, .int (nI 0)), (5, .long (lN 0)), (3, .long (lN 0)), (0, .ref (b 0)), (1, .int (nI x)), (2, .int (nI y))]) hx hb dX8_factorOf_6 hl (by decide) rfl (fun ls hl => ?_)
  refine lv_iconst (v := nI 0) hx hb dX8_factorOf_8 (by decide) ?_
  refine lv_istore (lv' := [(8, .int (nI 0)), (7, .int (nI 0)), (5, .long (lN 0)), (3, .long (lN 0)), (0, .ref (b 0)), (1, .int (nI x)), (2, .int (nI y))]) hx hb dX8_factorOf_9 hl (by decide) rfl (fun ls hl => ?_)
  have lp_11 : ∀ (nf : Nat) (k : Nat), (k ≤ 240) → 240 - k < nf → ∀ (ls : Array Slot), lv_has ls 10 [(0, .ref (b 0)), (1, .int (nI x)), (2, .int (nI y)), (3, .long (lN (sB u x y k))), (5, .long (lN (sB u y x k))), (7, .int (nI (cB u x y k))), (8, .int (nI k))] → W pg l ev (headSpec wsX8_factorOf ({ frames := 3, cells := 0, slots := 0, locals := 66 })).room s mt ([.ref (b 0), .int (nI x), .int (nI y)] : List Value).toArray below meth cd s.heap [] 0 0 (MQ below (vp_Si (fun r => r = oI (fc u le x y))) ([.ref (b 0), .int (nI x), .int (nI y)] : List Value).toArray s 0 0 (fun _ => False)) (F0 mt 11 ls []) := by
    intro nf
    induction nf with
    | zero => intro k hk hfu; exact absurd hfu (Nat.not_lt_zero _)
    | succ nf ih_11 =>
      intro k hk hfu ls hl
      have f1 := cB_le u x y k
      have f2 := sB_le tbu x y k
      have f3 := sB_le tbu y x k
      have f4 := num_le tbu (x * 240 + k)
      have f5 := num_le tbu (y * 240 + k)
      refine lv_iload hx hb dX8_factorOf_11 (lv_at hl 6 rfl) ?_
      refine lv_sipush (v := nI 240) hx hb dX8_factorOf_13 (by decide) ?_
      refine nv_icmp_ge (tgt := 66) hx hb dX8_factorOf_16 (by decide) (by omega) (by omega) (fun c_16 => ?_) (fun c_16 => ?_)
      · have hke : k = 240 := by omega
        refine lv_iload hx hb dX8_factorOf_66 (lv_at hl 5 rfl) ?_
        refine lv_aload_n hx hb dX8_factorOf_68 rfl (lv_at hl 0 rfl) ?_
        refine va_get (D := G) (own := RX8) (ref := "SpotRowsModel") (ci := 8) (v := .int (nI le)) (C := RX8) (T := TX8) (N := 23) hx hb hts hinX8 hown hK.1 hP 0 rfl rfl 7 (by decide) fl24 (fun _ h9 => h9) rfl dX8_factorOf_69 ?_
        refine nv_icmp_lt (tgt := 88) hx hb dX8_factorOf_72 (by decide) (by omega) (by omega) (fun c_72 => ?_) (fun c_72 => ?_)
        · refine lv_iconst (v := (-1)) hx hb dX8_factorOf_88 (by decide) ?_
          exact W.iret (v := (-1)) hx hb hr (fun zt ht zw => ⟨_, rfl, (m1_o.trans (congrArg oI (show 0 = (fc u le x y) from by unfold fc fcv; rw [← hke]; (repeat' split) <;> omega))), ht⟩) (fun q hq => absurd hq List.not_mem_nil) dX8_factorOf_89
        refine lv_lload_n hx hb dX8_factorOf_75 rfl (lv_at hl 3 rfl) ?_
        refine lv_lconst (v := lN 0) hx hb dX8_factorOf_76 (by decide) ?_
        refine nl_if_eq (tgt := 88) hx hb dX8_factorOf_77 dX8_factorOf_78 (by decide) (by omega) (by omega) (fun c_78 => ?_) (fun c_78 => ?_)
        · refine lv_iconst (v := (-1)) hx hb dX8_factorOf_88 (by decide) ?_
          exact W.iret (v := (-1)) hx hb hr (fun zt ht zw => ⟨_, rfl, (m1_o.trans (congrArg oI (show 0 = (fc u le x y) from by unfold fc fcv; rw [← hke]; (repeat' split) <;> omega))), ht⟩) (fun q hq => absurd hq List.not_mem_nil) dX8_factorOf_89
        refine lv_lload hx hb dX8_factorOf_81 (lv_at hl 4 rfl) ?_
        refine lv_lconst (v := lN 0) hx hb dX8_factorOf_83 (by decide) ?_
        refine nl_if_ne (tgt := 90) hx hb dX8_factorOf_84 dX8_factorOf_85 (by decide) (by omega) (by omega) (fun c_85 => ?_) (fun c_85 => ?_)
        · have hq := Nat.div_le_self (sB u y x k * 1000) (sB u x y k)
          refine lv_lload hx hb dX8_factorOf_90 (lv_at hl 4 rfl) ?_
          refine lv_ldc2 (own := RX8) (v := 1000) hx hb hown (hts (.constantLong RX8 120 (1000)) (by decide +kernel)) dX8_factorOf_92 ?_
          refine tol (show (1000 : Int64) = lN 1000 by decide) ?_
          refine lv_lmul hx hb dX8_factorOf_95 ?_
          refine tol (lN_mul (sB u y x k) 1000) ?_
          refine lv_lload_n hx hb dX8_factorOf_96 rfl (lv_at hl 3 rfl) ?_
          refine lv_ldiv hx hb dX8_factorOf_97 (lN_ne0 (by omega) (by omega)) ?_
          refine tol (pk_lDiv (a := (sB u y x k * 1000)) (b := (sB u x y k)) (by omega) (by omega) (by omega)) ?_
          refine lv_lstore (lv' := [(8, .long (lN (sB u y x k * 1000 / sB u x y k))), (0, .ref (b 0)), (1, .int (nI x)), (2, .int (nI y)), (3, .long (lN (sB u x y k))), (5, .long (lN (sB u y x k))), (7, .int (nI (cB u x y k)))]) hx hb dX8_factorOf_98 hl (by decide) rfl (fun ls hl => ?_)
          refine lv_lload hx hb dX8_factorOf_100 (lv_at hl 0 rfl) ?_
          refine lv_ldc2 (own := RX8) (v := 10) hx hb hown (hts (.constantLong RX8 139 (10)) (by decide +kernel)) dX8_factorOf_102 ?_
          refine tol (show (10 : Int64) = lN 10 by decide) ?_
          refine nl_if_lt (tgt := 118) hx hb dX8_factorOf_105 dX8_factorOf_106 (by decide) (by omega) (by omega) (fun c_106 => ?_) (fun c_106 => ?_)
          · refine lv_iconst (v := (-1)) hx hb dX8_factorOf_118 (by decide) ?_
            refine lv_goto (tgt := 125) hx hb dX8_factorOf_119 (by decide) ?_
            exact W.iret (v := (-1)) hx hb hr (fun zt ht zw => ⟨_, rfl, (m1_o.trans (congrArg oI (show 0 = (fc u le x y) from by unfold fc fcv; rw [← hke]; (repeat' split) <;> omega))), ht⟩) (fun q hq => absurd hq List.not_mem_nil) dX8_factorOf_125
          refine lv_lload hx hb dX8_factorOf_109 (lv_at hl 0 rfl) ?_
          refine lv_ldc2 (own := RX8) (v := 100000) hx hb hown (hts (.constantLong RX8 141 (100000)) (by decide +kernel)) dX8_factorOf_111 ?_
          refine tol (show (100000 : Int64) = lN 100000 by decide) ?_
          refine nl_if_le (tgt := 122) hx hb dX8_factorOf_114 dX8_factorOf_115 (by decide) (by omega) (by omega) (fun c_115 => ?_) (fun c_115 => ?_)
          · refine lv_lload hx hb dX8_factorOf_122 (lv_at hl 0 rfl) ?_
            refine lv_l2i (v := nI (sB u y x k * 1000 / sB u x y k)) hx hb dX8_factorOf_124 (lN_i (sB u y x k * 1000 / sB u x y k)) ?_
            exact W.iret (v := nI (sB u y x k * 1000 / sB u x y k)) hx hb hr (fun zt ht zw => ⟨_, rfl, ((nI_o (sB u y x k * 1000 / sB u x y k)).trans (congrArg oI (show (sB u y x k * 1000 / sB u x y k) + 1 = (fc u le x y) from by unfold fc fcv; rw [← hke]; (repeat' split) <;> omega))), ht⟩) (fun q hq => absurd hq List.not_mem_nil) dX8_factorOf_125
          refine lv_iconst (v := (-1)) hx hb dX8_factorOf_118 (by decide) ?_
          refine lv_goto (tgt := 125) hx hb dX8_factorOf_119 (by decide) ?_
          exact W.iret (v := (-1)) hx hb hr (fun zt ht zw => ⟨_, rfl, (m1_o.trans (congrArg oI (show 0 = (fc u le x y) from by unfold fc fcv; rw [← hke]; (repeat' split) <;> omega))), ht⟩) (fun q hq => absurd hq List.not_mem_nil) dX8_factorOf_125
        refine lv_iconst (v := (-1)) hx hb dX8_factorOf_88 (by decide) ?_
        exact W.iret (v := (-1)) hx hb hr (fun zt ht zw => ⟨_, rfl, (m1_o.trans (congrArg oI (show 0 = (fc u le x y) from by unfold fc fcv; rw [← hke]; (repeat' split) <;> omega))), ht⟩) (fun q hq => absurd hq List.not_mem_nil) dX8_factorOf_89
      refine lv_aload_n hx hb dX8_factorOf_19 rfl (lv_at hl 0 rfl) ?_
      refine lv_iload_n hx hb dX8_factorOf_20 rfl (lv_at hl 1 rfl) ?_
      refine lv_iload_n hx hb dX8_factorOf_21 rfl (lv_at hl 2 rfl) ?_
      refine lv_iload hx hb dX8_factorOf_22 (lv_at hl 6 rfl) ?_
      refine cro_i (va_runV (As := [.int (nI x), .int (nI y), .int (nI k)]) (rest := []) ⟨hx, hb, hml, hown, hts⟩ (c_X8_areBoth l G cI cJ (b := b) (st := st) (tp := tp) (bt := bt) (ey := ey) (le := le) (en := en) (wo := wo) (t := t) (u := u) (gr := gr) (sp := sp) (x := x) (y := y) (d := k) (tb := by first | assumption | omega) (hey := by first | assumption | omega) (hG := by first | assumption | omega) (hu := by first | assumption | omega) (hwo := by first | assumption | omega) (h_x := by first | assumption | omega) (h_y := by first | assumption | omega) (h_d := by first | assumption | omega)) (cwV 3 hts gX8_factorOf_X8_areBoth rfl rfl rfl (by decide +kernel) ⟨Nat.le_of_ble_eq_true rfl, Nat.le_of_ble_eq_true rfl⟩) (preV_ro (wc := [oM b st tp bt (nI ey) (nI le) en (oI wo), aI cI (b 4) 1920 gr]) hK hP [0, 1] rfl 8 0 rfl rfl rfl) rfl rfl hl.1 rfl (lv_room (Nat.le_of_ble_eq_true rfl)) dX8_factorOf_24 ⟨Nat.zero_le _, Nat.zero_le _⟩) ?_
      refine nb_if_ne (tgt := 33) hx hb dX8_factorOf_27 (by decide) (fun c_27 => ?_) (fun c_27 => ?_)
      · refine lv_lload_n hx hb dX8_factorOf_33 rfl (lv_at hl 3 rfl) ?_
        refine lv_aload_n hx hb dX8_factorOf_34 rfl (lv_at hl 0 rfl) ?_
        refine lv_iload_n hx hb dX8_factorOf_35 rfl (lv_at hl 1 rfl) ?_
        refine lv_iload hx hb dX8_factorOf_36 (lv_at hl 6 rfl) ?_
        refine cro_i (va_runV (As := [.int (nI x), .int (nI k)]) (rest := [.long (lN (sB u x y k))]) ⟨hx, hb, hml, hown, hts⟩ (c_X8_number l G cI cJ (b := b) (st := st) (tp := tp) (bt := bt) (ey := ey) (le := nI le) (en := en) (wo := oI wo) (t := t) (gr := gr) (sp := sp) (x := x) (d := k) (hey := by first | assumption | omega) (hG := by first | assumption | omega) (h_x := by first | assumption | omega) (h_d := by first | assumption | omega) (hn := UW_t hu (by omega) c_27.1)) (cwV 2 hts gX8_factorOf_X8_number rfl rfl rfl (by decide +kernel) ⟨Nat.le_of_ble_eq_true rfl, Nat.le_of_ble_eq_true rfl⟩) (preV_ro (wc := [oM b st tp bt (nI ey) (nI le) en (oI wo), aI cI (b 4) 1920 gr, aI cI (b 5) 1920 sp]) hK hP [0, 1, 2] rfl 8 0 rfl rfl rfl) rfl rfl hl.1 rfl (lv_room (Nat.le_of_ble_eq_true rfl)) dX8_factorOf_38 ⟨Nat.zero_le _, Nat.zero_le _⟩) ?_
        refine toi (show (nI (num t (x * 240 + k))) = (nI (num u (x * 240 + k))) from congrArg nI (UW_num hu (by omega) c_27.1)) ?_
        refine lv_i2l (v := lN (num u (x * 240 + k))) hx hb dX8_factorOf_41 (nI_l (by omega)) ?_
        refine lv_ladd hx hb dX8_factorOf_42 ?_
        refine tol (lN_add (sB u x y k) (num u (x * 240 + k))) ?_
        refine lv_lstore_n (lv' := [(3, .long (lN (sB u x y k + num u (x * 240 + k)))), (0, .ref (b 0)), (1, .int (nI x)), (2, .int (nI y)), (5, .long (lN (sB u y x k))), (7, .int (nI (cB u x y k))), (8, .int (nI k))]) hx hb dX8_factorOf_43 rfl hl (by decide) rfl (fun ls hl => ?_)
        refine lv_lload hx hb dX8_factorOf_44 (lv_at hl 4 rfl) ?_
        refine lv_aload_n hx hb dX8_factorOf_46 rfl (lv_at hl 1 rfl) ?_
        refine lv_iload_n hx hb dX8_factorOf_47 rfl (lv_at hl 3 rfl) ?_
        refine lv_iload hx hb dX8_factorOf_48 (lv_at hl 6 rfl) ?_
        refine cro_i (va_runV (As := [.int (nI y), .int (nI k)]) (rest := [.long (lN (sB u y x k))]) ⟨hx, hb, hml, hown, hts⟩ (c_X8_number l G cI cJ (b := b) (st := st) (tp := tp) (bt := bt) (ey := ey) (le := nI le) (en := en) (wo := oI wo) (t := t) (gr := gr) (sp := sp) (x := y) (d := k) (hey := by first | assumption | omega) (hG := by first | assumption | omega) (h_x := by first | assumption | omega) (h_d := by first | assumption | omega) (hn := UW_t hu (by omega) c_27.2)) (cwV 2 hts gX8_factorOf_X8_number rfl rfl rfl (by decide +kernel) ⟨Nat.le_of_ble_eq_true rfl, Nat.le_of_ble_eq_true rfl⟩) (preV_ro (wc := [oM b st tp bt (nI ey) (nI le) en (oI wo), aI cI (b 4) 1920 gr, aI cI (b 5) 1920 sp]) hK hP [0, 1, 2] rfl 8 0 rfl rfl rfl) rfl rfl hl.1 rfl (lv_room (Nat.le_of_ble_eq_true rfl)) dX8_factorOf_50 ⟨Nat.zero_le _, Nat.zero_le _⟩) ?_
        refine toi (show (nI (num t (y * 240 + k))) = (nI (num u (y * 240 + k))) from congrArg nI (UW_num hu (by omega) c_27.2)) ?_
        refine lv_i2l (v := lN (num u (y * 240 + k))) hx hb dX8_factorOf_53 (nI_l (by omega)) ?_
        refine lv_ladd hx hb dX8_factorOf_54 ?_
        refine tol (lN_add (sB u y x k) (num u (y * 240 + k))) ?_
        refine lv_lstore (lv' := [(5, .long (lN (sB u y x k + num u (y * 240 + k)))), (3, .long (lN (sB u x y k + num u (x * 240 + k)))), (0, .ref (b 0)), (1, .int (nI x)), (2, .int (nI y)), (7, .int (nI (cB u x y k))), (8, .int (nI k))]) hx hb dX8_factorOf_55 hl (by decide) rfl (fun ls hl => ?_)
        refine lv_iinc (v := nI (cB u x y k + 1)) (lv' := [(7, .int (nI (cB u x y k + 1))), (5, .long (lN (sB u y x k + num u (y * 240 + k)))), (3, .long (lN (sB u x y k + num u (x * 240 + k)))), (0, .ref (b 0)), (1, .int (nI x)), (2, .int (nI y)), (8, .int (nI k))]) hx hb dX8_factorOf_57 hl (k := 5) rfl (nI_add (cB u x y k) 1) (by decide) rfl (fun ls hl => ?_)
        refine lv_iinc (v := nI (k + 1)) (lv' := [(8, .int (nI (k + 1))), (7, .int (nI (cB u x y k + 1))), (5, .long (lN (sB u y x k + num u (y * 240 + k)))), (3, .long (lN (sB u x y k + num u (x * 240 + k)))), (0, .ref (b 0)), (1, .int (nI x)), (2, .int (nI y))]) hx hb dX8_factorOf_60 hl (k := 6) rfl (nI_add k 1) (by decide) rfl (fun ls hl => ?_)
        refine lv_goto (tgt := 11) hx hb dX8_factorOf_63 (by decide) ?_
        exact ih_11 (k + 1) (by first | rfl | omega | (simp_all; done)) (by omega) ls (lvcv (l := [(0, .ref (b 0)), (1, .int (nI x)), (2, .int (nI y)), (3, .long (lN (sB u x y k + num u (x * 240 + k)))), (5, .long (lN (sB u y x k + num u (y * 240 + k)))), (7, .int (nI (cB u x y k + 1))), (8, .int (nI (k + 1)))]) (lv_sub hl [4, 5, 6, 3, 2, 1, 0] rfl) (lvC (lvC (lvC (lvL (congrArg lN (show (sB u x y k + num u (x * 240 + k)) = (sB u x y (k + 1)) from by first | rfl | (simp only [sB, sm_s]; split <;> first | omega | (simp_all; done) | (simp_all; omega)))) (lvL (congrArg lN (show (sB u y x k + num u (y * 240 + k)) = (sB u y x (k + 1)) from by first | rfl | (simp only [sB, sm_s]; split <;> first | omega | (simp_all; done) | (simp_all; omega)))) (lvI (congrArg nI (show (cB u x y k + 1) = (cB u x y (k + 1)) from by first | rfl | (simp only [cB, sm_s]; split <;> first | omega | (simp_all; done) | (simp_all; omega)))) (lvC rfl))))))))
      refine lv_goto (tgt := 60) hx hb dX8_factorOf_30 (by decide) ?_
      refine lv_iinc (v := nI (k + 1)) (lv' := [(8, .int (nI (k + 1))), (0, .ref (b 0)), (1, .int (nI x)), (2, .int (nI y)), (3, .long (lN (sB u x y k))), (5, .long (lN (sB u y x k))), (7, .int (nI (cB u x y k)))]) hx hb dX8_factorOf_60 hl (k := 6) rfl (nI_add k 1) (by decide) rfl (fun ls hl => ?_)
      refine lv_goto (tgt := 11) hx hb dX8_factorOf_63 (by decide) ?_
      exact ih_11 (k + 1) (by first | rfl | omega | (simp_all; done)) (by omega) ls (lvcv (l := [(0, .ref (b 0)), (1, .int (nI x)), (2, .int (nI y)), (3, .long (lN (sB u x y k))), (5, .long (lN (sB u y x k))), (7, .int (nI (cB u x y k))), (8, .int (nI (k + 1)))]) (lv_sub hl [1, 2, 3, 4, 5, 6, 0] rfl) (lvC (lvC (lvC (lvL (congrArg lN (show (sB u x y k) = (sB u x y (k + 1)) from by first | rfl | (simp only [sB, sm_s]; split <;> first | omega | (simp_all; done) | (simp_all; omega)))) (lvL (congrArg lN (show (sB u y x k) = (sB u y x (k + 1)) from by first | rfl | (simp only [sB, sm_s]; split <;> first | omega | (simp_all; done) | (simp_all; omega)))) (lvI (congrArg nI (show (cB u x y k) = (cB u x y (k + 1)) from by first | rfl | (simp only [cB, sm_s]; split <;> first | omega | (simp_all; done) | (simp_all; omega)))) (lvC rfl))))))))
  exact lp_11 (240 - 0 + 1) 0 (by first | rfl | omega | (simp_all; done)) (by omega) ls (lvcv (l := [(0, .ref (b 0)), (1, .int (nI x)), (2, .int (nI y)), (3, .long (lN 0)), (5, .long (lN 0)), (7, .int (nI 0)), (8, .int (nI 0))]) (lv_sub hl [4, 5, 6, 3, 2, 1, 0] rfl) (lvC (lvC (lvC (lvL (congrArg lN (show 0 = (sB u x y 0) from by rfl)) (lvL (congrArg lN (show 0 = (sB u y x 0) from by rfl)) (lvI (congrArg nI (show 0 = (cB u x y 0) from by rfl)) (lvC rfl))))))))

set_option maxHeartbeats 400000 in
set_option maxRecDepth 100000 in
theorem c_X8_factor (l : Launch) (G : va_G) (cI cJ : ClassId) (b : Nat → Nat) (st : Int32) (tp : Int64) (bt : Int64) (ey : Nat) (le : Nat) (en : Int32) (t : Nat → Nat) (gr : Nat → Int32) (sp : Nat → Int32) (x : Int32) (y : Int32) (tb : TB t) (hey : ey ≤ 8) (hG : GM t ey gr sp) (hle : le ≤ 100) : Met l yX8_factor wsX8_factor ({ frames := 4, cells := 0, slots := 0, locals := 95 }) (rwP G cI cJ [.ref (b 0), .int x, .int y] [oM b st tp bt (nI ey) (nI le) en (oI 0), aI cI (b 4) 1920 gr, aI cI (b 5) 1920 sp]) (rwQi G [oM b st tp bt (nI ey) (nI le) en (oI 0), aI cI (b 4) 1920 gr, aI cI (b 5) 1920 sp] (fun (r : Int32) (_ : Unit) => r = oI (rFactor t ey le x y)) (fun (_ : Unit) => [oM b (nI (qFactor t ey le x y)) tp bt (nI ey) (nI le) en (oI 0), aI cI (b 4) 1920 gr, aI cI (b 5) 1920 sp])) 0 0 (ads [oM b st tp bt (nI ey) (nI le) en (oI 0), aI cI (b 4) 1920 gr, aI cI (b 5) 1920 sp]) := by
  refine Met.ofW (cc := cX8_factor) (maxL := 4) (ret := (some .int)) (by decide) rfl ?_
  intro pg ev s mt args below meth cd s₁ B hml hv
  obtain ⟨rfl, hP, hD0, hK⟩ := hv
  have hx := B.exec
  have hb := B.bytes
  have hr := B.returns
  have hts := atoms_spec (ws := wsX8_factor) B.pre
  have hown : s.vm.findClass RX8 = some mt.cls := findClass_of_methodNamed B.named
  have hlocks := B.notSynchronized
  have hD := ads_self hD0
  generalize hAe : ads [oM b st tp bt (nI ey) (nI le) en (oI 0), aI cI (b 4) 1920 gr, aI cI (b 5) 1920 sp] = A at hD ⊢
  have hS : va_S A s.heap s.heap [] := va_S.rf
  have hP : va_P G vwCl [oM b st tp bt (nI ey) (nI le) en (oI 0), aI cI (b 4) 1920 gr, aI cI (b 5) 1920 sp] s.heap := hP
  have hinX8 := (show ∀ w ∈ u_ws RX8 TX8 23, w ∈ wsX8_factor by decide +kernel)
  have fl73 := hts (.fieldLink RX8 73 "SpotRowsModel" "status" "I") (by decide +kernel)
  have hl := lv_entry ([.ref (b 0), .int x, .int y]) (n := 4) (Nat.le_of_ble_eq_true rfl)
  rw [lg_entry_eq]
  generalize (lg_sl ([.ref (b 0), .int x, .int y]) ++ List.replicate (4 - (lg_sl ([.ref (b 0), .int x, .int y])).length) Slot.unset).toArray = ls at hl ⊢
  have hl : lv_has ls 4 [(0, .ref (b 0)), (1, .int x), (2, .int y)] := hl
  refine lv_aload_n hx hb dX8_factor_0 rfl (lv_at hl 0 rfl) ?_
  refine lv_iload_n hx hb dX8_factor_1 rfl (lv_at hl 1 rfl) ?_
  refine lv_iload_n hx hb dX8_factor_2 rfl (lv_at hl 2 rfl) ?_
  refine cro_i (va_runV (As := [.int x, .int y]) (rest := []) ⟨hx, hb, hml, hown, hts⟩ (c_X8_areTwo l G cI cJ (b := b) (st := st) (tp := tp) (bt := bt) (ey := ey) (le := nI le) (en := en) (wo := oI 0) (x := x) (y := y) (hey := by first | assumption | omega)) (cwV 2 hts gX8_factor_X8_areTwo rfl rfl rfl (by decide +kernel) ⟨Nat.le_of_ble_eq_true rfl, Nat.le_of_ble_eq_true rfl⟩) (preV_ro (wc := [oM b st tp bt (nI ey) (nI le) en (oI 0)]) hK hP [0] rfl 8 0 rfl rfl rfl) rfl rfl hl.1 rfl (lv_room (Nat.le_of_ble_eq_true rfl)) dX8_factor_3 ⟨Nat.zero_le _, Nat.zero_le _⟩) ?_
  refine nb_if_ne (tgt := 15) hx hb dX8_factor_6 (by decide) (fun c_6 => ?_) (fun c_6 => ?_)
  · obtain ⟨j_x, h_x, rfl⟩ := rg_ex c_6.1
    have e_x := nn_nI (j := j_x) (by omega)
    obtain ⟨j_y, h_y, rfl⟩ := rg_ex c_6.2.1
    have e_y := nn_nI (j := j_y) (by omega)
    have ne_x_y : j_x ≠ j_y := fun h => c_6.2.2 (congrArg nI h)
    refine lv_aload_n hx hb dX8_factor_15 rfl (lv_at hl 0 rfl) ?_
    refine lv_iload_n hx hb dX8_factor_16 rfl (lv_at hl 1 rfl) ?_
    refine lv_iload_n hx hb dX8_factor_17 rfl (lv_at hl 2 rfl) ?_
    refine cro_i (va_runV (As := [.int (nI j_x), .int (nI j_y)]) (rest := []) ⟨hx, hb, hml, hown, hts⟩ (c_X8_factorOf l G cI cJ (b := b) (st := st) (tp := tp) (bt := bt) (ey := ey) (le := le) (en := en) (wo := 0) (t := t) (u := t) (gr := gr) (sp := sp) (x := j_x) (y := j_y) (tb := by first | assumption | omega) (hey := by first | assumption | omega) (hG := by first | assumption | omega) (hu := UW_0 t) (hwo := by omega) (tbu := tb) (h_x := by first | assumption | omega) (h_y := by first | assumption | omega) (hle := by first | assumption | omega)) (cwV 2 hts gX8_factor_X8_factorOf rfl rfl rfl (by decide +kernel) ⟨Nat.le_of_ble_eq_true rfl, Nat.le_of_ble_eq_true rfl⟩) (preV_ro (wc := [oM b st tp bt (nI ey) (nI le) en (oI 0), aI cI (b 4) 1920 gr, aI cI (b 5) 1920 sp]) hK hP [0, 1, 2] rfl 8 0 rfl rfl rfl) rfl rfl hl.1 rfl (lv_room (Nat.le_of_ble_eq_true rfl)) dX8_factor_18 ⟨Nat.zero_le _, Nat.zero_le _⟩) ?_
    refine lv_istore_n (lv' := [(3, .int (oI (fc t le j_x j_y))), (0, .ref (b 0)), (1, .int (nI j_x)), (2, .int (nI j_y))]) hx hb dX8_factor_21 rfl hl (by decide) rfl (fun ls hl => ?_)
    refine lv_iload_n hx hb dX8_factor_22 rfl (lv_at hl 0 rfl) ?_
    refine lv_iconst (v := (-1)) hx hb dX8_factor_23 (by decide) ?_
    refine no_icmp_ne (tgt := 34) hx hb dX8_factor_24 (by decide) (by first | omega | exact Nat.le_trans (TB_le tb _) (by decide) | exact Nat.lt_of_le_of_lt (TB_le tb _) (by decide) | exact Nat.le_trans (fc_le _ _ _ _) (by decide) | exact Nat.lt_of_le_of_lt (fc_le _ _ _ _) (by decide)) (fun c_24 => ?_) (fun c_24 => ?_)
    · refine lv_aload_n hx hb dX8_factor_34 rfl (lv_at hl 1 rfl) ?_
      refine lv_iconst (v := nI 0) hx hb dX8_factor_35 (by decide) ?_
      refine va_put (D := G) (own := RX8) (ref := "SpotRowsModel") (ci := 8) (v := .int (nI 0)) (ty := .int) (C := RX8) (T := TX8) (N := 23) hx hb hts hinX8 tyX8 tyX8_ok nmX8 hown hK.1 hP hD hS 0 rfl rfl 0 (by decide) fl73 (fun _ h9 => h9) rfl (by decide +kernel) rfl rfl (Nat.le_of_ble_eq_true rfl) dX8_factor_36 (fun H locs hP hD hS => ?_)
      have hP : va_P G vwCl [oM b (nI 0) tp bt (nI ey) (nI le) en (oI 0), aI cI (b 4) 1920 gr, aI cI (b 5) 1920 sp] H := hP
      have hD : va_D A [oM b (nI 0) tp bt (nI ey) (nI le) en (oI 0), aI cI (b 4) 1920 gr, aI cI (b 5) 1920 sp] := hD
      refine lv_iload_n hx hb dX8_factor_39 rfl (lv_at hl 0 rfl) ?_
      refine toi (oI_pos (by first | assumption | omega)) ?_
      have hP : va_P G vwCl [oM b (nI (qFactor t ey le (nI j_x) (nI j_y))) tp bt (nI ey) (nI le) en (oI 0), aI cI (b 4) 1920 gr, aI cI (b 5) 1920 sp] H := by
        have ew : ([oM b (nI 0) tp bt (nI ey) (nI le) en (oI 0), aI cI (b 4) 1920 gr, aI cI (b 5) 1920 sp] : va_W) = [oM b (nI (qFactor t ey le (nI j_x) (nI j_y))) tp bt (nI ey) (nI le) en (oI 0), aI cI (b 4) 1920 gr, aI cI (b 5) 1920 sp] := (wvC (congrArg (fun zz => oM b zz tp bt (nI ey) (nI le) en (oI 0)) (show nI 0 = nI (qFactor t ey le (nI j_x) (nI j_y)) from (congrArg nI (show 0 = (qFactor t ey le (nI j_x) (nI j_y)) from by first | rfl | (simp only [rFactor, qFactor, pr, cif_T, cif_F, ctold, c_6, e_x, e_y]; done) | (simp [rFactor, qFactor, pr, cif_T, cif_F, ctold, c_6, e_x, e_y]; done) | (simp [rFactor, qFactor, pr, cif_T, cif_F, ctold, c_6, e_x, e_y]; simp [c_24]; done) | (simp [rFactor, qFactor, pr, cif_T, cif_F, ctold, c_6, e_x, e_y, c_24]; done) | omega | (simp [rFactor, qFactor, pr, cif_T, cif_F, ctold, c_6, e_x, e_y]; omega) | (simp [rFactor, qFactor, pr, cif_T, cif_F, ctold, c_6, e_x, e_y, c_24]; omega))))) (wvC rfl (wvC rfl rfl)))
        rw [← ew]; exact hP
      exact W.iret (v := nI (fc t le j_x j_y - 1)) hx hb hr (fun zt ht zw => ⟨⟨_, (), rfl, ((nI_o (fc t le j_x j_y - 1)).trans (congrArg oI (show (fc t le j_x j_y - 1) + 1 = (rFactor t ey le (nI j_x) (nI j_y)) from by first | rfl | (simp only [rFactor, qFactor, pr, cif_T, cif_F, ctold, c_6, e_x, e_y]; done) | (simp [rFactor, qFactor, pr, cif_T, cif_F, ctold, c_6, e_x, e_y]; done) | (simp [rFactor, qFactor, pr, cif_T, cif_F, ctold, c_6, e_x, e_y]; simp [c_24]; done) | (simp [rFactor, qFactor, pr, cif_T, cif_F, ctold, c_6, e_x, e_y, c_24]; done) | omega | (simp [rFactor, qFactor, pr, cif_T, cif_F, ctold, c_6, e_x, e_y]; omega) | (simp [rFactor, qFactor, pr, cif_T, cif_F, ctold, c_6, e_x, e_y, c_24]; omega)))), by show va_P _ _ _ zt.heap; rw [ht]; exact hP⟩, by rw [hAe]; exact hS.F ht⟩) hS.2.2 dX8_factor_40
    refine lv_aload_n hx hb dX8_factor_27 rfl (lv_at hl 1 rfl) ?_
    refine lv_bipush (v := nI 6) hx hb dX8_factor_28 (by decide) ?_
    refine crw_i (va_runV (As := [.int (nI 6)]) (rest := []) ⟨hx, hb, hml, hown, hts⟩ (c_X8_refuse l G cI cJ (b := b) (st := st) (tp := tp) (bt := bt) (ey := ey) (le := nI le) (en := en) (wo := oI 0) (w := nI 6) ) (cwV 1 hts gX8_factor_X8_refuse rfl rfl rfl (by decide +kernel) ⟨Nat.le_of_ble_eq_true rfl, Nat.le_of_ble_eq_true rfl⟩) (preV_rw (wc := [oM b st tp bt (nI ey) (nI le) en (oI 0)]) hK hP hD [0] rfl rfl 8 0 rfl rfl rfl) rfl rfl hl.1 rfl (lv_room (Nat.le_of_ble_eq_true rfl)) dX8_factor_30 ⟨Nat.zero_le _, Nat.zero_le _⟩) hP hD hS [0] rfl [b 0] (fun u => rfl) rfl (fun r_30 u_ H locs hw_30 hP hD hS => ?_)
    have hP : va_P G vwCl [oM b (nI 6) tp bt (nI ey) (nI le) en (oI 0), aI cI (b 4) 1920 gr, aI cI (b 5) 1920 sp] H := hP
    have hD : va_D A [oM b (nI 6) tp bt (nI ey) (nI le) en (oI 0), aI cI (b 4) 1920 gr, aI cI (b 5) 1920 sp] := hD
    refine toi hw_30 ?_
    have hP : va_P G vwCl [oM b (nI (qFactor t ey le (nI j_x) (nI j_y))) tp bt (nI ey) (nI le) en (oI 0), aI cI (b 4) 1920 gr, aI cI (b 5) 1920 sp] H := by
      have ew : ([oM b (nI 6) tp bt (nI ey) (nI le) en (oI 0), aI cI (b 4) 1920 gr, aI cI (b 5) 1920 sp] : va_W) = [oM b (nI (qFactor t ey le (nI j_x) (nI j_y))) tp bt (nI ey) (nI le) en (oI 0), aI cI (b 4) 1920 gr, aI cI (b 5) 1920 sp] := (wvC (congrArg (fun zz => oM b zz tp bt (nI ey) (nI le) en (oI 0)) (show nI 6 = nI (qFactor t ey le (nI j_x) (nI j_y)) from (congrArg nI (show 6 = (qFactor t ey le (nI j_x) (nI j_y)) from by first | rfl | (simp only [rFactor, qFactor, pr, cif_T, cif_F, ctold, c_6, e_x, e_y]; done) | (simp [rFactor, qFactor, pr, cif_T, cif_F, ctold, c_6, e_x, e_y]; done) | (simp [rFactor, qFactor, pr, cif_T, cif_F, ctold, c_6, e_x, e_y]; simp [c_24]; done) | (simp [rFactor, qFactor, pr, cif_T, cif_F, ctold, c_6, e_x, e_y, c_24]; done) | omega | (simp [rFactor, qFactor, pr, cif_T, cif_F, ctold, c_6, e_x, e_y]; omega) | (simp [rFactor, qFactor, pr, cif_T, cif_F, ctold, c_6, e_x, e_y, c_24]; omega))))) (wvC rfl (wvC rfl rfl)))
      rw [← ew]; exact hP
    exact W.iret (v := (-1)) hx hb hr (fun zt ht zw => ⟨⟨_, (), rfl, (m1_o.trans (congrArg oI (show 0 = (rFactor t ey le (nI j_x) (nI j_y)) from by first | rfl | (simp only [rFactor, qFactor, pr, cif_T, cif_F, ctold, c_6, e_x, e_y]; done) | (simp [rFactor, qFactor, pr, cif_T, cif_F, ctold, c_6, e_x, e_y]; done) | (simp [rFactor, qFactor, pr, cif_T, cif_F, ctold, c_6, e_x, e_y]; simp [c_24]; done) | (simp [rFactor, qFactor, pr, cif_T, cif_F, ctold, c_6, e_x, e_y, c_24]; done) | omega | (simp [rFactor, qFactor, pr, cif_T, cif_F, ctold, c_6, e_x, e_y]; omega) | (simp [rFactor, qFactor, pr, cif_T, cif_F, ctold, c_6, e_x, e_y, c_24]; omega)))), by show va_P _ _ _ zt.heap; rw [ht]; exact hP⟩, by rw [hAe]; exact hS.F ht⟩) hS.2.2 dX8_factor_33
  refine lv_aload_n hx hb dX8_factor_9 rfl (lv_at hl 0 rfl) ?_
  refine lv_iconst (v := nI 1) hx hb dX8_factor_10 (by decide) ?_
  refine crw_i (va_runV (As := [.int (nI 1)]) (rest := []) ⟨hx, hb, hml, hown, hts⟩ (c_X8_refuse l G cI cJ (b := b) (st := st) (tp := tp) (bt := bt) (ey := ey) (le := nI le) (en := en) (wo := oI 0) (w := nI 1) ) (cwV 1 hts gX8_factor_X8_refuse rfl rfl rfl (by decide +kernel) ⟨Nat.le_of_ble_eq_true rfl, Nat.le_of_ble_eq_true rfl⟩) (preV_rw (wc := [oM b st tp bt (nI ey) (nI le) en (oI 0)]) hK hP hD [0] rfl rfl 8 0 rfl rfl rfl) rfl rfl hl.1 rfl (lv_room (Nat.le_of_ble_eq_true rfl)) dX8_factor_11 ⟨Nat.zero_le _, Nat.zero_le _⟩) hP hD hS [0] rfl [b 0] (fun u => rfl) rfl (fun r_11 u_ H locs hw_11 hP hD hS => ?_)
  have hP : va_P G vwCl [oM b (nI 1) tp bt (nI ey) (nI le) en (oI 0), aI cI (b 4) 1920 gr, aI cI (b 5) 1920 sp] H := hP
  have hD : va_D A [oM b (nI 1) tp bt (nI ey) (nI le) en (oI 0), aI cI (b 4) 1920 gr, aI cI (b 5) 1920 sp] := hD
  refine toi hw_11 ?_
  have hP : va_P G vwCl [oM b (nI (qFactor t ey le x y)) tp bt (nI ey) (nI le) en (oI 0), aI cI (b 4) 1920 gr, aI cI (b 5) 1920 sp] H := by
    have ew : ([oM b (nI 1) tp bt (nI ey) (nI le) en (oI 0), aI cI (b 4) 1920 gr, aI cI (b 5) 1920 sp] : va_W) = [oM b (nI (qFactor t ey le x y)) tp bt (nI ey) (nI le) en (oI 0), aI cI (b 4) 1920 gr, aI cI (b 5) 1920 sp] := (wvC (congrArg (fun zz => oM b zz tp bt (nI ey) (nI le) en (oI 0)) (show nI 1 = nI (qFactor t ey le x y) from (congrArg nI (show 1 = (qFactor t ey le x y) from by first | rfl | (simp only [rFactor, qFactor, pr, cif_T, cif_F, ctold, c_6]; done) | (simp [rFactor, qFactor, pr, cif_T, cif_F, ctold, c_6]; done) | omega | (simp [rFactor, qFactor, pr, cif_T, cif_F, ctold, c_6]; omega))))) (wvC rfl (wvC rfl rfl)))
    rw [← ew]; exact hP
  exact W.iret (v := (-1)) hx hb hr (fun zt ht zw => ⟨⟨_, (), rfl, (m1_o.trans (congrArg oI (show 0 = (rFactor t ey le x y) from by first | rfl | (simp only [rFactor, qFactor, pr, cif_T, cif_F, ctold, c_6]; done) | (simp [rFactor, qFactor, pr, cif_T, cif_F, ctold, c_6]; done) | omega | (simp [rFactor, qFactor, pr, cif_T, cif_F, ctold, c_6]; omega)))), by show va_P _ _ _ zt.heap; rw [ht]; exact hP⟩, by rw [hAe]; exact hS.F ht⟩) hS.2.2 dX8_factor_14

set_option maxHeartbeats 400000 in
set_option maxRecDepth 100000 in
theorem c_X8_fraction (l : Launch) (G : va_G) (cI cJ : ClassId) (b : Nat → Nat) (st : Int32) (tp : Int64) (bt : Int64) (ey : Nat) (le : Int32) (en : Int32) (wo : Int32) (x : Nat) (y : Nat) (h1 : x < 2 ^ 31) (h2 : y < 2 ^ 31) (h3 : 0 < y) : Met l yX8_fraction wsX8_fraction ({ frames := 0, cells := 0, slots := 0, locals := 0 }) (rwP G cI cJ [.ref (b 0), .long (lN x), .long (lN y)] [oM b st tp bt (nI ey) le en wo]) (rwQi G [oM b st tp bt (nI ey) le en wo] (fun (r : Int32) (_ : Unit) => r = nI (if 0 < x then 1 else 0)) (fun (_ : Unit) => [oM b (nI 0) (lN (x / Nat.gcd x y)) (lN (y / Nat.gcd x y)) (nI ey) le en wo])) 0 0 (ads [oM b st tp bt (nI ey) le en wo]) := by
  refine Met.ofW (cc := cX8_fraction) (maxL := 11) (ret := (some .int)) (by decide) rfl ?_
  intro pg ev s mt args below meth cd s₁ B hml hv
  obtain ⟨rfl, hP, hD0, hK⟩ := hv
  have hx := B.exec
  have hb := B.bytes
  have hr := B.returns
  have hts := atoms_spec (ws := wsX8_fraction) B.pre
  have hown : s.vm.findClass RX8 = some mt.cls := findClass_of_methodNamed B.named
  have hlocks := B.notSynchronized
  have hD := ads_self hD0
  generalize hAe : ads [oM b st tp bt (nI ey) le en wo] = A at hD ⊢
  have hS : va_S A s.heap s.heap [] := va_S.rf
  have hP : va_P G vwCl [oM b st tp bt (nI ey) le en wo] s.heap := hP
  have hinX8 := (show ∀ w ∈ u_ws RX8 TX8 23, w ∈ wsX8_fraction by decide +kernel)
  have fl76 := hts (.fieldLink RX8 76 "SpotRowsModel" "top" "J") (by decide +kernel)
  have fl7 := hts (.fieldLink RX8 7 "SpotRowsModel" "bottom" "J") (by decide +kernel)
  have fl73 := hts (.fieldLink RX8 73 "SpotRowsModel" "status" "I") (by decide +kernel)
  have hl := lv_entry ([.ref (b 0), .long (lN x), .long (lN y)]) (n := 11) (Nat.le_of_ble_eq_true rfl)
  rw [lg_entry_eq]
  generalize (lg_sl ([.ref (b 0), .long (lN x), .long (lN y)]) ++ List.replicate (11 - (lg_sl ([.ref (b 0), .long (lN x), .long (lN y)])).length) Slot.unset).toArray = ls at hl ⊢
  have hl : lv_has ls 11 [(0, .ref (b 0)), (1, .long (lN x)), (3, .long (lN y))] := hl
  have g1 := Nat.gcd_pos_of_pos_right x h3
  have g2 := Nat.le_of_dvd h3 (Nat.gcd_dvd_right x y)
  refine lv_lload_n hx hb dX8_fraction_0 rfl (lv_at hl 1 rfl) ?_
  refine lv_lstore (lv' := [(5, .long (lN x)), (0, .ref (b 0)), (1, .long (lN x)), (3, .long (lN y))]) hx hb dX8_fraction_1 hl (by decide) rfl (fun ls hl => ?_)
  refine lv_lload_n hx hb dX8_fraction_3 rfl (lv_at hl 3 rfl) ?_
  refine lv_lstore (lv' := [(7, .long (lN y)), (5, .long (lN x)), (0, .ref (b 0)), (1, .long (lN x)), (3, .long (lN y))]) hx hb dX8_fraction_4 hl (by decide) rfl (fun ls hl => ?_)
  have lp_6 : ∀ (nf : Nat) (g : Nat) (r : Nat), (g < 2 ^ 31) → (r < 2 ^ 31) → (Nat.gcd g r = Nat.gcd x y) → r < nf → ∀ (H : Heap) (locs : List Loc), va_P G vwCl [oM b st tp bt (nI ey) le en wo] H → va_D A [oM b st tp bt (nI ey) le en wo] → va_S A s.heap H locs → ∀ (ls : Array Slot), lv_has ls 11 [(0, .ref (b 0)), (1, .long (lN x)), (3, .long (lN y)), (5, .long (lN g)), (7, .long (lN r))] → W pg l ev (headSpec wsX8_fraction ({ frames := 0, cells := 0, slots := 0, locals := 0 })).room s mt ([.ref (b 0), .long (lN x), .long (lN y)] : List Value).toArray below meth cd H locs 0 0 (MQ below (rwQi G [oM b st tp bt (nI ey) le en wo] (fun (r : Int32) (_ : Unit) => r = nI (if 0 < x then 1 else 0)) (fun (_ : Unit) => [oM b (nI 0) (lN (x / Nat.gcd x y)) (lN (y / Nat.gcd x y)) (nI ey) le en wo])) ([.ref (b 0), .long (lN x), .long (lN y)] : List Value).toArray s 0 0 A) (F0 mt 6 ls []) := by
    intro nf
    induction nf with
    | zero => intro g r hg hr_ hgc hfu; exact absurd hfu (Nat.not_lt_zero _)
    | succ nf ih_6 =>
      intro g r hg hr_ hgc hfu H locs hP hD hS ls hl
      refine lv_lload hx hb dX8_fraction_6 (lv_at hl 4 rfl) ?_
      refine lv_lconst (v := lN 0) hx hb dX8_fraction_8 (by decide) ?_
      refine nl_if_eq (tgt := 31) hx hb dX8_fraction_9 dX8_fraction_10 (by decide) (by omega) (by omega) (fun c_10 => ?_) (fun c_10 => ?_)
      · have hgg : g = Nat.gcd x y := by rw [c_10, Nat.gcd_zero_right] at hgc; exact hgc
        refine lv_aload_n hx hb dX8_fraction_31 rfl (lv_at hl 0 rfl) ?_
        refine lv_lload_n hx hb dX8_fraction_32 rfl (lv_at hl 1 rfl) ?_
        refine lv_lload hx hb dX8_fraction_33 (lv_at hl 3 rfl) ?_
        refine lv_ldiv hx hb dX8_fraction_35 (lN_ne0 (by omega) (by omega)) ?_
        refine tol (pk_lDiv (a := x) (b := g) (by omega) (by omega) (by omega)) ?_
        refine va_put (D := G) (own := RX8) (ref := "SpotRowsModel") (ci := 8) (v := .long (lN (x / g))) (ty := .long) (C := RX8) (T := TX8) (N := 23) hx hb hts hinX8 tyX8 tyX8_ok nmX8 hown hK.1 hP hD hS 0 rfl rfl 1 (by decide) fl76 (fun _ h9 => h9) rfl (by decide +kernel) rfl rfl (Nat.le_of_ble_eq_true rfl) dX8_fraction_36 (fun H locs hP hD hS => ?_)
        have hP : va_P G vwCl [oM b st (lN (x / g)) bt (nI ey) le en wo] H := hP
        have hD : va_D A [oM b st (lN (x / g)) bt (nI ey) le en wo] := hD
        refine lv_aload_n hx hb dX8_fraction_39 rfl (lv_at hl 0 rfl) ?_
        refine lv_lload_n hx hb dX8_fraction_40 rfl (lv_at hl 2 rfl) ?_
        refine lv_lload hx hb dX8_fraction_41 (lv_at hl 3 rfl) ?_
        refine lv_ldiv hx hb dX8_fraction_43 (lN_ne0 (by omega) (by omega)) ?_
        refine tol (pk_lDiv (a := y) (b := g) (by omega) (by omega) (by omega)) ?_
        refine va_put (D := G) (own := RX8) (ref := "SpotRowsModel") (ci := 8) (v := .long (lN (y / g))) (ty := .long) (C := RX8) (T := TX8) (N := 23) hx hb hts hinX8 tyX8 tyX8_ok nmX8 hown hK.1 hP hD hS 0 rfl rfl 2 (by decide) fl7 (fun _ h9 => h9) rfl (by decide +kernel) rfl rfl (Nat.le_of_ble_eq_true rfl) dX8_fraction_44 (fun H locs hP hD hS => ?_)
        have hP : va_P G vwCl [oM b st (lN (x / g)) (lN (y / g)) (nI ey) le en wo] H := hP
        have hD : va_D A [oM b st (lN (x / g)) (lN (y / g)) (nI ey) le en wo] := hD
        refine lv_aload_n hx hb dX8_fraction_47 rfl (lv_at hl 0 rfl) ?_
        refine lv_iconst (v := nI 0) hx hb dX8_fraction_48 (by decide) ?_
        refine va_put (D := G) (own := RX8) (ref := "SpotRowsModel") (ci := 8) (v := .int (nI 0)) (ty := .int) (C := RX8) (T := TX8) (N := 23) hx hb hts hinX8 tyX8 tyX8_ok nmX8 hown hK.1 hP hD hS 0 rfl rfl 0 (by decide) fl73 (fun _ h9 => h9) rfl (by decide +kernel) rfl rfl (Nat.le_of_ble_eq_true rfl) dX8_fraction_49 (fun H locs hP hD hS => ?_)
        have hP : va_P G vwCl [oM b (nI 0) (lN (x / g)) (lN (y / g)) (nI ey) le en wo] H := hP
        have hD : va_D A [oM b (nI 0) (lN (x / g)) (lN (y / g)) (nI ey) le en wo] := hD
        refine lv_lload_n hx hb dX8_fraction_52 rfl (lv_at hl 1 rfl) ?_
        refine lv_lconst (v := lN 0) hx hb dX8_fraction_53 (by decide) ?_
        refine nl_if_le (tgt := 62) hx hb dX8_fraction_54 dX8_fraction_55 (by decide) (by omega) (by omega) (fun c_55 => ?_) (fun c_55 => ?_)
        · refine lv_iconst (v := nI 0) hx hb dX8_fraction_62 (by decide) ?_
          have hP : va_P G vwCl [oM b (nI 0) (lN (x / Nat.gcd x y)) (lN (y / Nat.gcd x y)) (nI ey) le en wo] H := by
            have ew : ([oM b (nI 0) (lN (x / g)) (lN (y / g)) (nI ey) le en wo] : va_W) = [oM b (nI 0) (lN (x / Nat.gcd x y)) (lN (y / Nat.gcd x y)) (nI ey) le en wo] := (wvC (Eq.trans (congrArg (fun zz => oM b (nI 0) zz (lN (y / g)) (nI ey) le en wo) (show lN (x / g) = lN (x / Nat.gcd x y) from (congrArg lN (show (x / g) = (x / Nat.gcd x y) from by first | (rw [hgg]; done) | (rw [if_pos (by omega)]; done) | (rw [if_neg (by omega)]; done))))) (congrArg (fun zz => oM b (nI 0) (lN (x / Nat.gcd x y)) zz (nI ey) le en wo) (show lN (y / g) = lN (y / Nat.gcd x y) from (congrArg lN (show (y / g) = (y / Nat.gcd x y) from by first | (rw [hgg]; done) | (rw [if_pos (by omega)]; done) | (rw [if_neg (by omega)]; done)))))) rfl)
            rw [← ew]; exact hP
          exact W.iret (v := nI 0) hx hb hr (fun zt ht zw => ⟨⟨_, (), rfl, (congrArg nI (show 0 = (if 0 < x then 1 else 0) from by first | (rw [hgg]; done) | (rw [if_pos (by omega)]; done) | (rw [if_neg (by omega)]; done))), by show va_P _ _ _ zt.heap; rw [ht]; exact hP⟩, by rw [hAe]; exact hS.F ht⟩) hS.2.2 dX8_fraction_63
        refine lv_iconst (v := nI 1) hx hb dX8_fraction_58 (by decide) ?_
        refine lv_goto (tgt := 63) hx hb dX8_fraction_59 (by decide) ?_
        have hP : va_P G vwCl [oM b (nI 0) (lN (x / Nat.gcd x y)) (lN (y / Nat.gcd x y)) (nI ey) le en wo] H := by
          have ew : ([oM b (nI 0) (lN (x / g)) (lN (y / g)) (nI ey) le en wo] : va_W) = [oM b (nI 0) (lN (x / Nat.gcd x y)) (lN (y / Nat.gcd x y)) (nI ey) le en wo] := (wvC (Eq.trans (congrArg (fun zz => oM b (nI 0) zz (lN (y / g)) (nI ey) le en wo) (show lN (x / g) = lN (x / Nat.gcd x y) from (congrArg lN (show (x / g) = (x / Nat.gcd x y) from by first | (rw [hgg]; done) | (rw [if_pos (by omega)]; done) | (rw [if_neg (by omega)]; done))))) (congrArg (fun zz => oM b (nI 0) (lN (x / Nat.gcd x y)) zz (nI ey) le en wo) (show lN (y / g) = lN (y / Nat.gcd x y) from (congrArg lN (show (y / g) = (y / Nat.gcd x y) from by first | (rw [hgg]; done) | (rw [if_pos (by omega)]; done) | (rw [if_neg (by omega)]; done)))))) rfl)
          rw [← ew]; exact hP
        exact W.iret (v := nI 1) hx hb hr (fun zt ht zw => ⟨⟨_, (), rfl, (congrArg nI (show 1 = (if 0 < x then 1 else 0) from by first | (rw [hgg]; done) | (rw [if_pos (by omega)]; done) | (rw [if_neg (by omega)]; done))), by show va_P _ _ _ zt.heap; rw [ht]; exact hP⟩, by rw [hAe]; exact hS.F ht⟩) hS.2.2 dX8_fraction_63
      have mlt := Nat.mod_lt g (Nat.pos_of_ne_zero c_10)
      refine lv_lload hx hb dX8_fraction_13 (lv_at hl 3 rfl) ?_
      refine lv_lload hx hb dX8_fraction_15 (lv_at hl 4 rfl) ?_
      refine lv_lrem hx hb dX8_fraction_17 (lN_ne0 (by omega) (by omega)) ?_
      refine tol (pk_lRem (a := g) (b := r) (by omega) (by omega) (by omega)) ?_
      refine lv_lstore (lv' := [(9, .long (lN (g % r))), (0, .ref (b 0)), (1, .long (lN x)), (3, .long (lN y)), (5, .long (lN g)), (7, .long (lN r))]) hx hb dX8_fraction_18 hl (by decide) rfl (fun ls hl => ?_)
      refine lv_lload hx hb dX8_fraction_20 (lv_at hl 5 rfl) ?_
      refine lv_lstore (lv' := [(5, .long (lN r)), (9, .long (lN (g % r))), (0, .ref (b 0)), (1, .long (lN x)), (3, .long (lN y)), (7, .long (lN r))]) hx hb dX8_fraction_22 hl (by decide) rfl (fun ls hl => ?_)
      refine lv_lload hx hb dX8_fraction_24 (lv_at hl 1 rfl) ?_
      refine lv_lstore (lv' := [(7, .long (lN (g % r))), (5, .long (lN r)), (9, .long (lN (g % r))), (0, .ref (b 0)), (1, .long (lN x)), (3, .long (lN y))]) hx hb dX8_fraction_26 hl (by decide) rfl (fun ls hl => ?_)
      refine lv_goto (tgt := 6) hx hb dX8_fraction_28 (by decide) ?_
      exact ih_6 r (g % r) (by omega) (by have := Nat.mod_lt g (Nat.pos_of_ne_zero c_10); omega) (by rw [Nat.gcd_comm, ← Nat.gcd_rec, Nat.gcd_comm]; exact hgc) (by omega) H locs hP hD hS ls (lvcv (l := [(0, .ref (b 0)), (1, .long (lN x)), (3, .long (lN y)), (5, .long (lN r)), (7, .long (lN (g % r)))]) (lv_sub hl [3, 4, 5, 1, 0] rfl) (lvC (lvC (lvC (lvC (lvC rfl))))))
  exact lp_6 (y + 1) x y (by omega) (by omega) (by rfl) (by omega) _ _ hP hD hS ls (lvcv (l := [(0, .ref (b 0)), (1, .long (lN x)), (3, .long (lN y)), (5, .long (lN x)), (7, .long (lN y))]) (lv_sub hl [2, 3, 4, 1, 0] rfl) (lvC (lvC (lvC (lvC (lvC rfl))))))

set_option maxHeartbeats 400000 in
set_option maxRecDepth 100000 in
theorem c_X8_active (l : Launch) (G : va_G) (cI cJ : ClassId) (b : Nat → Nat) (st : Int32) (tp : Int64) (bt : Int64) (ey : Nat) (le : Int32) (en : Int32) (wo : Int32) (t : Nat → Nat) (gr : Nat → Int32) (sp : Nat → Int32) (x : Int32) (fr : Int32) (to : Int32) (tb : TB t) (hey : ey ≤ 8) (hG : GM t ey gr sp) : Met l yX8_active wsX8_active ({ frames := 1, cells := 0, slots := 0, locals := 30 }) (rwP G cI cJ [.ref (b 0), .int x, .int fr, .int to] [oM b st tp bt (nI ey) le en wo, aI cI (b 4) 1920 gr]) (rwQi G [oM b st tp bt (nI ey) le en wo, aI cI (b 4) 1920 gr] (fun (r : Int32) (_ : Unit) => r = oI (rFr (qActive t ey x fr to) (upActive t x fr to))) (fun (_ : Unit) => [oM b (nI (qActive t ey x fr to)) (frU (qActive t ey x fr to) (upActive t x fr to) (loActive t x fr to) tp) (frL (qActive t ey x fr to) (upActive t x fr to) (loActive t x fr to) bt) (nI ey) le en wo, aI cI (b 4) 1920 gr])) 0 0 (ads [oM b st tp bt (nI ey) le en wo, aI cI (b 4) 1920 gr]) := by
  refine Met.ofW (cc := cX8_active) (maxL := 7) (ret := (some .int)) (by decide) rfl ?_
  intro pg ev s mt args below meth cd s₁ B hml hv
  obtain ⟨rfl, hP, hD0, hK⟩ := hv
  have hx := B.exec
  have hb := B.bytes
  have hr := B.returns
  have hts := atoms_spec (ws := wsX8_active) B.pre
  have hown : s.vm.findClass RX8 = some mt.cls := findClass_of_methodNamed B.named
  have hlocks := B.notSynchronized
  have hD := ads_self hD0
  generalize hAe : ads [oM b st tp bt (nI ey) le en wo, aI cI (b 4) 1920 gr] = A at hD ⊢
  have hS : va_S A s.heap s.heap [] := va_S.rf
  have hP : va_P G vwCl [oM b st tp bt (nI ey) le en wo, aI cI (b 4) 1920 gr] s.heap := hP
  have hinX8 := (show ∀ w ∈ u_ws RX8 TX8 23, w ∈ wsX8_active by decide +kernel)
  have fl31 := hts (.fieldLink RX8 31 "SpotRowsModel" "groups" "[I") (by decide +kernel)
  have hl := lv_entry ([.ref (b 0), .int x, .int fr, .int to]) (n := 7) (Nat.le_of_ble_eq_true rfl)
  rw [lg_entry_eq]
  generalize (lg_sl ([.ref (b 0), .int x, .int fr, .int to]) ++ List.replicate (7 - (lg_sl ([.ref (b 0), .int x, .int fr, .int to])).length) Slot.unset).toArray = ls at hl ⊢
  have hl : lv_has ls 7 [(0, .ref (b 0)), (1, .int x), (2, .int fr), (3, .int to)] := hl
  refine lv_aload_n hx hb dX8_active_0 rfl (lv_at hl 0 rfl) ?_
  refine lv_iload_n hx hb dX8_active_1 rfl (lv_at hl 1 rfl) ?_
  refine cro_i (va_runV (As := [.int x]) (rest := []) ⟨hx, hb, hml, hown, hts⟩ (c_X8_isEye l G cI cJ (b := b) (st := st) (tp := tp) (bt := bt) (ey := ey) (le := le) (en := en) (wo := wo) (x := x) (hey := by first | assumption | omega)) (cwV 1 hts gX8_active_X8_isEye rfl rfl rfl (by decide +kernel) ⟨Nat.le_of_ble_eq_true rfl, Nat.le_of_ble_eq_true rfl⟩) (preV_ro (wc := [oM b st tp bt (nI ey) le en wo]) hK hP [0] rfl 8 0 rfl rfl rfl) rfl rfl hl.1 rfl (lv_room (Nat.le_of_ble_eq_true rfl)) dX8_active_2 ⟨Nat.zero_le _, Nat.zero_le _⟩) ?_
  refine nb_if_eq (tgt := 27) hx hb dX8_active_5 (by decide) (fun c_5 => ?_) (fun c_5 => ?_)
  · refine lv_aload_n hx hb dX8_active_27 rfl (lv_at hl 0 rfl) ?_
    refine lv_iconst (v := nI 1) hx hb dX8_active_28 (by decide) ?_
    refine crw_i (va_runV (As := [.int (nI 1)]) (rest := []) ⟨hx, hb, hml, hown, hts⟩ (c_X8_refuse l G cI cJ (b := b) (st := st) (tp := tp) (bt := bt) (ey := ey) (le := le) (en := en) (wo := wo) (w := nI 1) ) (cwV 1 hts gX8_active_X8_refuse rfl rfl rfl (by decide +kernel) ⟨Nat.le_of_ble_eq_true rfl, Nat.le_of_ble_eq_true rfl⟩) (preV_rw (wc := [oM b st tp bt (nI ey) le en wo]) hK hP hD [0] rfl rfl 8 0 rfl rfl rfl) rfl rfl hl.1 rfl (lv_room (Nat.le_of_ble_eq_true rfl)) dX8_active_29 ⟨Nat.zero_le _, Nat.zero_le _⟩) hP hD hS [0] rfl [b 0] (fun u => rfl) rfl (fun r_29 u_ H locs hw_29 hP hD hS => ?_)
    have hP : va_P G vwCl [oM b (nI 1) tp bt (nI ey) le en wo, aI cI (b 4) 1920 gr] H := hP
    have hD : va_D A [oM b (nI 1) tp bt (nI ey) le en wo, aI cI (b 4) 1920 gr] := hD
    refine toi hw_29 ?_
    have hP : va_P G vwCl [oM b (nI (qActive t ey x fr to)) (frU (qActive t ey x fr to) (upActive t x fr to) (loActive t x fr to) tp) (frL (qActive t ey x fr to) (upActive t x fr to) (loActive t x fr to) bt) (nI ey) le en wo, aI cI (b 4) 1920 gr] H := by
      have ew : ([oM b (nI 1) tp bt (nI ey) le en wo, aI cI (b 4) 1920 gr] : va_W) = [oM b (nI (qActive t ey x fr to)) (frU (qActive t ey x fr to) (upActive t x fr to) (loActive t x fr to) tp) (frL (qActive t ey x fr to) (upActive t x fr to) (loActive t x fr to) bt) (nI ey) le en wo, aI cI (b 4) 1920 gr] := (wvC (Eq.trans (Eq.trans (congrArg (fun zz => oM b zz tp bt (nI ey) le en wo) (show nI 1 = nI (qActive t ey x fr to) from (congrArg nI (show 1 = (qActive t ey x fr to) from by first | (have k9 : ¬ okActive ey x fr to := (fun h => c_5 h.1); simp [qActive, frU, frL, rFr, cif_neg k9]; done) | (have k9 : ¬ okActive ey (nI j_x) fr to := (fun h => c_12 h.2.1); simp [qActive, frU, frL, rFr, cif_neg k9]; done) | (have k9 : ¬ okActive ey (nI j_x) (nI j_fr) to := (fun h => c_19 h.2.2.1); simp [qActive, frU, frL, rFr, cif_neg k9]; done) | (have k9 : ¬ okActive ey (nI j_x) (nI j_fr) (nI j_to) := (fun h => by have h9 := h.2.2.2; rw [e_fr, e_to] at h9; omega); simp [qActive, frU, frL, rFr, cif_neg k9]; done))))) (congrArg (fun zz => oM b (nI (qActive t ey x fr to)) zz bt (nI ey) le en wo) (show tp = frU (qActive t ey x fr to) (upActive t x fr to) (loActive t x fr to) tp from (show tp = frU (qActive t ey x fr to) (upActive t x fr to) (loActive t x fr to) tp from by first | (have k9 : ¬ okActive ey x fr to := (fun h => c_5 h.1); simp [qActive, frU, frL, rFr, cif_neg k9]; done) | (have k9 : ¬ okActive ey (nI j_x) fr to := (fun h => c_12 h.2.1); simp [qActive, frU, frL, rFr, cif_neg k9]; done) | (have k9 : ¬ okActive ey (nI j_x) (nI j_fr) to := (fun h => c_19 h.2.2.1); simp [qActive, frU, frL, rFr, cif_neg k9]; done) | (have k9 : ¬ okActive ey (nI j_x) (nI j_fr) (nI j_to) := (fun h => by have h9 := h.2.2.2; rw [e_fr, e_to] at h9; omega); simp [qActive, frU, frL, rFr, cif_neg k9]; done))))) (congrArg (fun zz => oM b (nI (qActive t ey x fr to)) (frU (qActive t ey x fr to) (upActive t x fr to) (loActive t x fr to) tp) zz (nI ey) le en wo) (show bt = frL (qActive t ey x fr to) (upActive t x fr to) (loActive t x fr to) bt from (show bt = frL (qActive t ey x fr to) (upActive t x fr to) (loActive t x fr to) bt from by first | (have k9 : ¬ okActive ey x fr to := (fun h => c_5 h.1); simp [qActive, frU, frL, rFr, cif_neg k9]; done) | (have k9 : ¬ okActive ey (nI j_x) fr to := (fun h => c_12 h.2.1); simp [qActive, frU, frL, rFr, cif_neg k9]; done) | (have k9 : ¬ okActive ey (nI j_x) (nI j_fr) to := (fun h => c_19 h.2.2.1); simp [qActive, frU, frL, rFr, cif_neg k9]; done) | (have k9 : ¬ okActive ey (nI j_x) (nI j_fr) (nI j_to) := (fun h => by have h9 := h.2.2.2; rw [e_fr, e_to] at h9; omega); simp [qActive, frU, frL, rFr, cif_neg k9]; done))))) (wvC rfl rfl))
      rw [← ew]; exact hP
    exact W.iret (v := (-1)) hx hb hr (fun zt ht zw => ⟨⟨_, (), rfl, (m1_o.trans (congrArg oI (show 0 = (rFr (qActive t ey x fr to) (upActive t x fr to)) from by first | (have k9 : ¬ okActive ey x fr to := (fun h => c_5 h.1); simp [qActive, frU, frL, rFr, cif_neg k9]; done) | (have k9 : ¬ okActive ey (nI j_x) fr to := (fun h => c_12 h.2.1); simp [qActive, frU, frL, rFr, cif_neg k9]; done) | (have k9 : ¬ okActive ey (nI j_x) (nI j_fr) to := (fun h => c_19 h.2.2.1); simp [qActive, frU, frL, rFr, cif_neg k9]; done) | (have k9 : ¬ okActive ey (nI j_x) (nI j_fr) (nI j_to) := (fun h => by have h9 := h.2.2.2; rw [e_fr, e_to] at h9; omega); simp [qActive, frU, frL, rFr, cif_neg k9]; done)))), by show va_P _ _ _ zt.heap; rw [ht]; exact hP⟩, by rw [hAe]; exact hS.F ht⟩) hS.2.2 dX8_active_32
  obtain ⟨j_x, h_x, rfl⟩ := rg_ex c_5
  have e_x := nn_nI (j := j_x) (by omega)
  refine lv_iload_n hx hb dX8_active_8 rfl (lv_at hl 2 rfl) ?_
  refine cro_i (va_runS (As := [.int fr]) (rest := []) ⟨hx, hb, hml, hown, hts⟩ (c_X8_isDay l G cI cJ (x := fr) ) (va_cwS 1 hts gX8_active_X8_isDay rfl rfl rfl (by decide +kernel) ⟨Nat.le_of_ble_eq_true rfl, Nat.le_of_ble_eq_true rfl⟩) (preS_ro (wc := []) hK hP [] rfl) rfl rfl hl.1 rfl (lv_room (Nat.le_of_ble_eq_true rfl)) dX8_active_9 ⟨Nat.zero_le _, Nat.zero_le _⟩) ?_
  refine nb_if_eq (tgt := 27) hx hb dX8_active_12 (by decide) (fun c_12 => ?_) (fun c_12 => ?_)
  · refine lv_aload_n hx hb dX8_active_27 rfl (lv_at hl 0 rfl) ?_
    refine lv_iconst (v := nI 1) hx hb dX8_active_28 (by decide) ?_
    refine crw_i (va_runV (As := [.int (nI 1)]) (rest := []) ⟨hx, hb, hml, hown, hts⟩ (c_X8_refuse l G cI cJ (b := b) (st := st) (tp := tp) (bt := bt) (ey := ey) (le := le) (en := en) (wo := wo) (w := nI 1) ) (cwV 1 hts gX8_active_X8_refuse rfl rfl rfl (by decide +kernel) ⟨Nat.le_of_ble_eq_true rfl, Nat.le_of_ble_eq_true rfl⟩) (preV_rw (wc := [oM b st tp bt (nI ey) le en wo]) hK hP hD [0] rfl rfl 8 0 rfl rfl rfl) rfl rfl hl.1 rfl (lv_room (Nat.le_of_ble_eq_true rfl)) dX8_active_29 ⟨Nat.zero_le _, Nat.zero_le _⟩) hP hD hS [0] rfl [b 0] (fun u => rfl) rfl (fun r_29 u_ H locs hw_29 hP hD hS => ?_)
    have hP : va_P G vwCl [oM b (nI 1) tp bt (nI ey) le en wo, aI cI (b 4) 1920 gr] H := hP
    have hD : va_D A [oM b (nI 1) tp bt (nI ey) le en wo, aI cI (b 4) 1920 gr] := hD
    refine toi hw_29 ?_
    have hP : va_P G vwCl [oM b (nI (qActive t ey (nI j_x) fr to)) (frU (qActive t ey (nI j_x) fr to) (upActive t (nI j_x) fr to) (loActive t (nI j_x) fr to) tp) (frL (qActive t ey (nI j_x) fr to) (upActive t (nI j_x) fr to) (loActive t (nI j_x) fr to) bt) (nI ey) le en wo, aI cI (b 4) 1920 gr] H := by
      have ew : ([oM b (nI 1) tp bt (nI ey) le en wo, aI cI (b 4) 1920 gr] : va_W) = [oM b (nI (qActive t ey (nI j_x) fr to)) (frU (qActive t ey (nI j_x) fr to) (upActive t (nI j_x) fr to) (loActive t (nI j_x) fr to) tp) (frL (qActive t ey (nI j_x) fr to) (upActive t (nI j_x) fr to) (loActive t (nI j_x) fr to) bt) (nI ey) le en wo, aI cI (b 4) 1920 gr] := (wvC (Eq.trans (Eq.trans (congrArg (fun zz => oM b zz tp bt (nI ey) le en wo) (show nI 1 = nI (qActive t ey (nI j_x) fr to) from (congrArg nI (show 1 = (qActive t ey (nI j_x) fr to) from by first | (have k9 : ¬ okActive ey x fr to := (fun h => c_5 h.1); simp [qActive, frU, frL, rFr, cif_neg k9]; done) | (have k9 : ¬ okActive ey (nI j_x) fr to := (fun h => c_12 h.2.1); simp [qActive, frU, frL, rFr, cif_neg k9]; done) | (have k9 : ¬ okActive ey (nI j_x) (nI j_fr) to := (fun h => c_19 h.2.2.1); simp [qActive, frU, frL, rFr, cif_neg k9]; done) | (have k9 : ¬ okActive ey (nI j_x) (nI j_fr) (nI j_to) := (fun h => by have h9 := h.2.2.2; rw [e_fr, e_to] at h9; omega); simp [qActive, frU, frL, rFr, cif_neg k9]; done))))) (congrArg (fun zz => oM b (nI (qActive t ey (nI j_x) fr to)) zz bt (nI ey) le en wo) (show tp = frU (qActive t ey (nI j_x) fr to) (upActive t (nI j_x) fr to) (loActive t (nI j_x) fr to) tp from (show tp = frU (qActive t ey (nI j_x) fr to) (upActive t (nI j_x) fr to) (loActive t (nI j_x) fr to) tp from by first | (have k9 : ¬ okActive ey x fr to := (fun h => c_5 h.1); simp [qActive, frU, frL, rFr, cif_neg k9]; done) | (have k9 : ¬ okActive ey (nI j_x) fr to := (fun h => c_12 h.2.1); simp [qActive, frU, frL, rFr, cif_neg k9]; done) | (have k9 : ¬ okActive ey (nI j_x) (nI j_fr) to := (fun h => c_19 h.2.2.1); simp [qActive, frU, frL, rFr, cif_neg k9]; done) | (have k9 : ¬ okActive ey (nI j_x) (nI j_fr) (nI j_to) := (fun h => by have h9 := h.2.2.2; rw [e_fr, e_to] at h9; omega); simp [qActive, frU, frL, rFr, cif_neg k9]; done))))) (congrArg (fun zz => oM b (nI (qActive t ey (nI j_x) fr to)) (frU (qActive t ey (nI j_x) fr to) (upActive t (nI j_x) fr to) (loActive t (nI j_x) fr to) tp) zz (nI ey) le en wo) (show bt = frL (qActive t ey (nI j_x) fr to) (upActive t (nI j_x) fr to) (loActive t (nI j_x) fr to) bt from (show bt = frL (qActive t ey (nI j_x) fr to) (upActive t (nI j_x) fr to) (loActive t (nI j_x) fr to) bt from by first | (have k9 : ¬ okActive ey x fr to := (fun h => c_5 h.1); simp [qActive, frU, frL, rFr, cif_neg k9]; done) | (have k9 : ¬ okActive ey (nI j_x) fr to := (fun h => c_12 h.2.1); simp [qActive, frU, frL, rFr, cif_neg k9]; done) | (have k9 : ¬ okActive ey (nI j_x) (nI j_fr) to := (fun h => c_19 h.2.2.1); simp [qActive, frU, frL, rFr, cif_neg k9]; done) | (have k9 : ¬ okActive ey (nI j_x) (nI j_fr) (nI j_to) := (fun h => by have h9 := h.2.2.2; rw [e_fr, e_to] at h9; omega); simp [qActive, frU, frL, rFr, cif_neg k9]; done))))) (wvC rfl rfl))
      rw [← ew]; exact hP
    exact W.iret (v := (-1)) hx hb hr (fun zt ht zw => ⟨⟨_, (), rfl, (m1_o.trans (congrArg oI (show 0 = (rFr (qActive t ey (nI j_x) fr to) (upActive t (nI j_x) fr to)) from by first | (have k9 : ¬ okActive ey x fr to := (fun h => c_5 h.1); simp [qActive, frU, frL, rFr, cif_neg k9]; done) | (have k9 : ¬ okActive ey (nI j_x) fr to := (fun h => c_12 h.2.1); simp [qActive, frU, frL, rFr, cif_neg k9]; done) | (have k9 : ¬ okActive ey (nI j_x) (nI j_fr) to := (fun h => c_19 h.2.2.1); simp [qActive, frU, frL, rFr, cif_neg k9]; done) | (have k9 : ¬ okActive ey (nI j_x) (nI j_fr) (nI j_to) := (fun h => by have h9 := h.2.2.2; rw [e_fr, e_to] at h9; omega); simp [qActive, frU, frL, rFr, cif_neg k9]; done)))), by show va_P _ _ _ zt.heap; rw [ht]; exact hP⟩, by rw [hAe]; exact hS.F ht⟩) hS.2.2 dX8_active_32
  obtain ⟨j_fr, h_fr, rfl⟩ := rg_ex c_12
  have e_fr := nn_nI (j := j_fr) (by omega)
  refine lv_iload_n hx hb dX8_active_15 rfl (lv_at hl 3 rfl) ?_
  refine cro_i (va_runS (As := [.int to]) (rest := []) ⟨hx, hb, hml, hown, hts⟩ (c_X8_isDay l G cI cJ (x := to) ) (va_cwS 1 hts gX8_active_X8_isDay rfl rfl rfl (by decide +kernel) ⟨Nat.le_of_ble_eq_true rfl, Nat.le_of_ble_eq_true rfl⟩) (preS_ro (wc := []) hK hP [] rfl) rfl rfl hl.1 rfl (lv_room (Nat.le_of_ble_eq_true rfl)) dX8_active_16 ⟨Nat.zero_le _, Nat.zero_le _⟩) ?_
  refine nb_if_eq (tgt := 27) hx hb dX8_active_19 (by decide) (fun c_19 => ?_) (fun c_19 => ?_)
  · refine lv_aload_n hx hb dX8_active_27 rfl (lv_at hl 0 rfl) ?_
    refine lv_iconst (v := nI 1) hx hb dX8_active_28 (by decide) ?_
    refine crw_i (va_runV (As := [.int (nI 1)]) (rest := []) ⟨hx, hb, hml, hown, hts⟩ (c_X8_refuse l G cI cJ (b := b) (st := st) (tp := tp) (bt := bt) (ey := ey) (le := le) (en := en) (wo := wo) (w := nI 1) ) (cwV 1 hts gX8_active_X8_refuse rfl rfl rfl (by decide +kernel) ⟨Nat.le_of_ble_eq_true rfl, Nat.le_of_ble_eq_true rfl⟩) (preV_rw (wc := [oM b st tp bt (nI ey) le en wo]) hK hP hD [0] rfl rfl 8 0 rfl rfl rfl) rfl rfl hl.1 rfl (lv_room (Nat.le_of_ble_eq_true rfl)) dX8_active_29 ⟨Nat.zero_le _, Nat.zero_le _⟩) hP hD hS [0] rfl [b 0] (fun u => rfl) rfl (fun r_29 u_ H locs hw_29 hP hD hS => ?_)
    have hP : va_P G vwCl [oM b (nI 1) tp bt (nI ey) le en wo, aI cI (b 4) 1920 gr] H := hP
    have hD : va_D A [oM b (nI 1) tp bt (nI ey) le en wo, aI cI (b 4) 1920 gr] := hD
    refine toi hw_29 ?_
    have hP : va_P G vwCl [oM b (nI (qActive t ey (nI j_x) (nI j_fr) to)) (frU (qActive t ey (nI j_x) (nI j_fr) to) (upActive t (nI j_x) (nI j_fr) to) (loActive t (nI j_x) (nI j_fr) to) tp) (frL (qActive t ey (nI j_x) (nI j_fr) to) (upActive t (nI j_x) (nI j_fr) to) (loActive t (nI j_x) (nI j_fr) to) bt) (nI ey) le en wo, aI cI (b 4) 1920 gr] H := by
      have ew : ([oM b (nI 1) tp bt (nI ey) le en wo, aI cI (b 4) 1920 gr] : va_W) = [oM b (nI (qActive t ey (nI j_x) (nI j_fr) to)) (frU (qActive t ey (nI j_x) (nI j_fr) to) (upActive t (nI j_x) (nI j_fr) to) (loActive t (nI j_x) (nI j_fr) to) tp) (frL (qActive t ey (nI j_x) (nI j_fr) to) (upActive t (nI j_x) (nI j_fr) to) (loActive t (nI j_x) (nI j_fr) to) bt) (nI ey) le en wo, aI cI (b 4) 1920 gr] := (wvC (Eq.trans (Eq.trans (congrArg (fun zz => oM b zz tp bt (nI ey) le en wo) (show nI 1 = nI (qActive t ey (nI j_x) (nI j_fr) to) from (congrArg nI (show 1 = (qActive t ey (nI j_x) (nI j_fr) to) from by first | (have k9 : ¬ okActive ey x fr to := (fun h => c_5 h.1); simp [qActive, frU, frL, rFr, cif_neg k9]; done) | (have k9 : ¬ okActive ey (nI j_x) fr to := (fun h => c_12 h.2.1); simp [qActive, frU, frL, rFr, cif_neg k9]; done) | (have k9 : ¬ okActive ey (nI j_x) (nI j_fr) to := (fun h => c_19 h.2.2.1); simp [qActive, frU, frL, rFr, cif_neg k9]; done) | (have k9 : ¬ okActive ey (nI j_x) (nI j_fr) (nI j_to) := (fun h => by have h9 := h.2.2.2; rw [e_fr, e_to] at h9; omega); simp [qActive, frU, frL, rFr, cif_neg k9]; done))))) (congrArg (fun zz => oM b (nI (qActive t ey (nI j_x) (nI j_fr) to)) zz bt (nI ey) le en wo) (show tp = frU (qActive t ey (nI j_x) (nI j_fr) to) (upActive t (nI j_x) (nI j_fr) to) (loActive t (nI j_x) (nI j_fr) to) tp from (show tp = frU (qActive t ey (nI j_x) (nI j_fr) to) (upActive t (nI j_x) (nI j_fr) to) (loActive t (nI j_x) (nI j_fr) to) tp from by first | (have k9 : ¬ okActive ey x fr to := (fun h => c_5 h.1); simp [qActive, frU, frL, rFr, cif_neg k9]; done) | (have k9 : ¬ okActive ey (nI j_x) fr to := (fun h => c_12 h.2.1); simp [qActive, frU, frL, rFr, cif_neg k9]; done) | (have k9 : ¬ okActive ey (nI j_x) (nI j_fr) to := (fun h => c_19 h.2.2.1); simp [qActive, frU, frL, rFr, cif_neg k9]; done) | (have k9 : ¬ okActive ey (nI j_x) (nI j_fr) (nI j_to) := (fun h => by have h9 := h.2.2.2; rw [e_fr, e_to] at h9; omega); simp [qActive, frU, frL, rFr, cif_neg k9]; done))))) (congrArg (fun zz => oM b (nI (qActive t ey (nI j_x) (nI j_fr) to)) (frU (qActive t ey (nI j_x) (nI j_fr) to) (upActive t (nI j_x) (nI j_fr) to) (loActive t (nI j_x) (nI j_fr) to) tp) zz (nI ey) le en wo) (show bt = frL (qActive t ey (nI j_x) (nI j_fr) to) (upActive t (nI j_x) (nI j_fr) to) (loActive t (nI j_x) (nI j_fr) to) bt from (show bt = frL (qActive t ey (nI j_x) (nI j_fr) to) (upActive t (nI j_x) (nI j_fr) to) (loActive t (nI j_x) (nI j_fr) to) bt from by first | (have k9 : ¬ okActive ey x fr to := (fun h => c_5 h.1); simp [qActive, frU, frL, rFr, cif_neg k9]; done) | (have k9 : ¬ okActive ey (nI j_x) fr to := (fun h => c_12 h.2.1); simp [qActive, frU, frL, rFr, cif_neg k9]; done) | (have k9 : ¬ okActive ey (nI j_x) (nI j_fr) to := (fun h => c_19 h.2.2.1); simp [qActive, frU, frL, rFr, cif_neg k9]; done) | (have k9 : ¬ okActive ey (nI j_x) (nI j_fr) (nI j_to) := (fun h => by have h9 := h.2.2.2; rw [e_fr, e_to] at h9; omega); simp [qActive, frU, frL, rFr, cif_neg k9]; done))))) (wvC rfl rfl))
      rw [← ew]; exact hP
    exact W.iret (v := (-1)) hx hb hr (fun zt ht zw => ⟨⟨_, (), rfl, (m1_o.trans (congrArg oI (show 0 = (rFr (qActive t ey (nI j_x) (nI j_fr) to) (upActive t (nI j_x) (nI j_fr) to)) from by first | (have k9 : ¬ okActive ey x fr to := (fun h => c_5 h.1); simp [qActive, frU, frL, rFr, cif_neg k9]; done) | (have k9 : ¬ okActive ey (nI j_x) fr to := (fun h => c_12 h.2.1); simp [qActive, frU, frL, rFr, cif_neg k9]; done) | (have k9 : ¬ okActive ey (nI j_x) (nI j_fr) to := (fun h => c_19 h.2.2.1); simp [qActive, frU, frL, rFr, cif_neg k9]; done) | (have k9 : ¬ okActive ey (nI j_x) (nI j_fr) (nI j_to) := (fun h => by have h9 := h.2.2.2; rw [e_fr, e_to] at h9; omega); simp [qActive, frU, frL, rFr, cif_neg k9]; done)))), by show va_P _ _ _ zt.heap; rw [ht]; exact hP⟩, by rw [hAe]; exact hS.F ht⟩) hS.2.2 dX8_active_32
  obtain ⟨j_to, h_to, rfl⟩ := rg_ex c_19
  have e_to := nn_nI (j := j_to) (by omega)
  refine lv_iload_n hx hb dX8_active_22 rfl (lv_at hl 2 rfl) ?_
  refine lv_iload_n hx hb dX8_active_23 rfl (lv_at hl 3 rfl) ?_
  refine nv_icmp_le (tgt := 33) hx hb dX8_active_24 (by decide) (by first | omega | exact Nat.le_trans (og_le tb _) (by decide)) (by first | omega | exact Nat.le_trans (og_le tb _) (by decide)) (fun c_24 => ?_) (fun c_24 => ?_)
  · refine lv_iconst (v := nI 0) hx hb dX8_active_33 (by decide) ?_
    refine lv_istore (lv' := [(4, .int (nI 0)), (0, .ref (b 0)), (1, .int (nI j_x)), (2, .int (nI j_fr)), (3, .int (nI j_to))]) hx hb dX8_active_34 hl (by decide) rfl (fun ls hl => ?_)
    refine lv_iconst (v := nI 0) hx hb dX8_active_36 (by decide) ?_
    refine lv_istore (lv' := [(5, .int (nI 0)), (4, .int (nI 0)), (0, .ref (b 0)), (1, .int (nI j_x)), (2, .int (nI j_fr)), (3, .int (nI j_to))]) hx hb dX8_active_37 hl (by decide) rfl (fun ls hl => ?_)
    refine lv_iload_n hx hb dX8_active_39 rfl (lv_at hl 4 rfl) ?_
    refine lv_istore (lv' := [(6, .int (nI j_fr)), (5, .int (nI 0)), (4, .int (nI 0)), (0, .ref (b 0)), (1, .int (nI j_x)), (2, .int (nI j_fr)), (3, .int (nI j_to))]) hx hb dX8_active_40 hl (by decide) rfl (fun ls hl => ?_)
    have lp_42 : ∀ (nf : Nat) (k : Nat), (j_fr + k ≤ j_to + 1) → j_to + 1 - (j_fr + k) < nf → ∀ (H : Heap) (locs : List Loc), va_P G vwCl [oM b st tp bt (nI ey) le en wo, aI cI (b 4) 1920 gr] H → va_D A [oM b st tp bt (nI ey) le en wo, aI cI (b 4) 1920 gr] → va_S A s.heap H locs → ∀ (ls : Array Slot), lv_has ls 7 [(0, .ref (b 0)), (1, .int (nI j_x)), (2, .int (nI j_fr)), (3, .int (nI j_to)), (4, .int (nI (cD t j_x j_fr k))), (5, .int (nI (cA t j_x j_fr k))), (6, .int (nI (j_fr + k)))] → W pg l ev (headSpec wsX8_active ({ frames := 1, cells := 0, slots := 0, locals := 30 })).room s mt ([.ref (b 0), .int (nI j_x), .int (nI j_fr), .int (nI j_to)] : List Value).toArray below meth cd H locs 0 0 (MQ below (rwQi G [oM b st tp bt (nI ey) le en wo, aI cI (b 4) 1920 gr] (fun (r : Int32) (_ : Unit) => r = oI (rFr (qActive t ey (nI j_x) (nI j_fr) (nI j_to)) (upActive t (nI j_x) (nI j_fr) (nI j_to)))) (fun (_ : Unit) => [oM b (nI (qActive t ey (nI j_x) (nI j_fr) (nI j_to))) (frU (qActive t ey (nI j_x) (nI j_fr) (nI j_to)) (upActive t (nI j_x) (nI j_fr) (nI j_to)) (loActive t (nI j_x) (nI j_fr) (nI j_to)) tp) (frL (qActive t ey (nI j_x) (nI j_fr) (nI j_to)) (upActive t (nI j_x) (nI j_fr) (nI j_to)) (loActive t (nI j_x) (nI j_fr) (nI j_to)) bt) (nI ey) le en wo, aI cI (b 4) 1920 gr])) ([.ref (b 0), .int (nI j_x), .int (nI j_fr), .int (nI j_to)] : List Value).toArray s 0 0 A) (F0 mt 42 ls []) := by
      intro nf
      induction nf with
      | zero => intro k hk hfu; exact absurd hfu (Nat.not_lt_zero _)
      | succ nf ih_42 =>
        intro k hk hfu H locs hP hD hS ls hl
        have f1 := cD_le t j_x j_fr k
        have f2 := cA_le t j_x j_fr k
        refine lv_iload hx hb dX8_active_42 (lv_at hl 6 rfl) ?_
        refine lv_iload_n hx hb dX8_active_44 rfl (lv_at hl 3 rfl) ?_
        refine nv_icmp_gt (tgt := 99) hx hb dX8_active_45 (by decide) (by first | omega | exact Nat.le_trans (og_le tb _) (by decide)) (by first | omega | exact Nat.le_trans (og_le tb _) (by decide)) (fun c_45 => ?_) (fun c_45 => ?_)
        · have hke : k = j_to + 1 - j_fr := by omega
          refine lv_iload hx hb dX8_active_99 (lv_at hl 4 rfl) ?_
          refine nv_if_ne (tgt := 112) hx hb dX8_active_101 (by decide) (by first | omega | exact Nat.le_trans (og_le tb _) (by decide)) (fun c_101 => ?_) (fun c_101 => ?_)
          · refine lv_aload_n hx hb dX8_active_112 rfl (lv_at hl 0 rfl) ?_
            refine lv_iload hx hb dX8_active_113 (lv_at hl 5 rfl) ?_
            refine lv_i2l (v := lN (cA t j_x j_fr k)) hx hb dX8_active_115 (nI_l (by first | omega | exact Nat.le_trans (og_le tb _) (by decide))) ?_
            refine lv_iload hx hb dX8_active_116 (lv_at hl 4 rfl) ?_
            refine lv_i2l (v := lN (cD t j_x j_fr k)) hx hb dX8_active_118 (nI_l (by first | omega | exact Nat.le_trans (og_le tb _) (by decide))) ?_
            refine crw_i (va_runV (As := [.long (lN (cA t j_x j_fr k)), .long (lN (cD t j_x j_fr k))]) (rest := []) ⟨hx, hb, hml, hown, hts⟩ (c_X8_fraction l G cI cJ (b := b) (st := st) (tp := tp) (bt := bt) (ey := ey) (le := le) (en := en) (wo := wo) (x := cA t j_x j_fr k) (y := cD t j_x j_fr k) (h1 := by first | assumption | omega) (h2 := by first | assumption | omega) (h3 := by omega)) (cwV 2 hts gX8_active_X8_fraction rfl rfl rfl (by decide +kernel) ⟨Nat.le_of_ble_eq_true rfl, Nat.le_of_ble_eq_true rfl⟩) (preV_rw (wc := [oM b st tp bt (nI ey) le en wo]) hK hP hD [0] rfl rfl 8 0 rfl rfl rfl) rfl rfl hl.1 rfl (lv_room (Nat.le_of_ble_eq_true rfl)) dX8_active_119 ⟨Nat.zero_le _, Nat.zero_le _⟩) hP hD hS [0] rfl [b 0] (fun u => rfl) rfl (fun r_119 u_ H locs hw_119 hP hD hS => ?_)
            have hP : va_P G vwCl [oM b (nI 0) (lN ((cA t j_x j_fr k) / Nat.gcd (cA t j_x j_fr k) (cD t j_x j_fr k))) (lN ((cD t j_x j_fr k) / Nat.gcd (cA t j_x j_fr k) (cD t j_x j_fr k))) (nI ey) le en wo, aI cI (b 4) 1920 gr] H := hP
            have hD : va_D A [oM b (nI 0) (lN ((cA t j_x j_fr k) / Nat.gcd (cA t j_x j_fr k) (cD t j_x j_fr k))) (lN ((cD t j_x j_fr k) / Nat.gcd (cA t j_x j_fr k) (cD t j_x j_fr k))) (nI ey) le en wo, aI cI (b 4) 1920 gr] := hD
            refine toi hw_119 ?_
            have hP : va_P G vwCl [oM b (nI (qActive t ey (nI j_x) (nI j_fr) (nI j_to))) (frU (qActive t ey (nI j_x) (nI j_fr) (nI j_to)) (upActive t (nI j_x) (nI j_fr) (nI j_to)) (loActive t (nI j_x) (nI j_fr) (nI j_to)) tp) (frL (qActive t ey (nI j_x) (nI j_fr) (nI j_to)) (upActive t (nI j_x) (nI j_fr) (nI j_to)) (loActive t (nI j_x) (nI j_fr) (nI j_to)) bt) (nI ey) le en wo, aI cI (b 4) 1920 gr] H := by
              have ew : ([oM b (nI 0) (lN ((cA t j_x j_fr k) / Nat.gcd (cA t j_x j_fr k) (cD t j_x j_fr k))) (lN ((cD t j_x j_fr k) / Nat.gcd (cA t j_x j_fr k) (cD t j_x j_fr k))) (nI ey) le en wo, aI cI (b 4) 1920 gr] : va_W) = [oM b (nI (qActive t ey (nI j_x) (nI j_fr) (nI j_to))) (frU (qActive t ey (nI j_x) (nI j_fr) (nI j_to)) (upActive t (nI j_x) (nI j_fr) (nI j_to)) (loActive t (nI j_x) (nI j_fr) (nI j_to)) tp) (frL (qActive t ey (nI j_x) (nI j_fr) (nI j_to)) (upActive t (nI j_x) (nI j_fr) (nI j_to)) (loActive t (nI j_x) (nI j_fr) (nI j_to)) bt) (nI ey) le en wo, aI cI (b 4) 1920 gr] := (wvC (Eq.trans (Eq.trans (congrArg (fun zz => oM b zz (lN ((cA t j_x j_fr k) / Nat.gcd (cA t j_x j_fr k) (cD t j_x j_fr k))) (lN ((cD t j_x j_fr k) / Nat.gcd (cA t j_x j_fr k) (cD t j_x j_fr k))) (nI ey) le en wo) (show nI 0 = nI (qActive t ey (nI j_x) (nI j_fr) (nI j_to)) from (congrArg nI (show 0 = (qActive t ey (nI j_x) (nI j_fr) (nI j_to)) from by have k9 : okActive ey (nI j_x) (nI j_fr) (nI j_to) := ⟨c_5, c_12, c_19, by rw [e_fr, e_to]; exact c_24⟩; rw [hke] at c_101; first | (simp [qActive, frU, frL, rFr, upActive, loActive, cif_pos k9, e_x, e_fr, e_to, c_101]; done) | (rw [hke]; simp [qActive, frU, frL, rFr, upActive, loActive, cif_pos k9, e_x, e_fr, e_to, c_101]; done))))) (congrArg (fun zz => oM b (nI (qActive t ey (nI j_x) (nI j_fr) (nI j_to))) zz (lN ((cD t j_x j_fr k) / Nat.gcd (cA t j_x j_fr k) (cD t j_x j_fr k))) (nI ey) le en wo) (show lN ((cA t j_x j_fr k) / Nat.gcd (cA t j_x j_fr k) (cD t j_x j_fr k)) = frU (qActive t ey (nI j_x) (nI j_fr) (nI j_to)) (upActive t (nI j_x) (nI j_fr) (nI j_to)) (loActive t (nI j_x) (nI j_fr) (nI j_to)) tp from (show lN ((cA t j_x j_fr k) / Nat.gcd (cA t j_x j_fr k) (cD t j_x j_fr k)) = frU (qActive t ey (nI j_x) (nI j_fr) (nI j_to)) (upActive t (nI j_x) (nI j_fr) (nI j_to)) (loActive t (nI j_x) (nI j_fr) (nI j_to)) tp from by have k9 : okActive ey (nI j_x) (nI j_fr) (nI j_to) := ⟨c_5, c_12, c_19, by rw [e_fr, e_to]; exact c_24⟩; rw [hke] at c_101; first | (simp [qActive, frU, frL, rFr, upActive, loActive, cif_pos k9, e_x, e_fr, e_to, c_101]; done) | (rw [hke]; simp [qActive, frU, frL, rFr, upActive, loActive, cif_pos k9, e_x, e_fr, e_to, c_101]; done))))) (congrArg (fun zz => oM b (nI (qActive t ey (nI j_x) (nI j_fr) (nI j_to))) (frU (qActive t ey (nI j_x) (nI j_fr) (nI j_to)) (upActive t (nI j_x) (nI j_fr) (nI j_to)) (loActive t (nI j_x) (nI j_fr) (nI j_to)) tp) zz (nI ey) le en wo) (show lN ((cD t j_x j_fr k) / Nat.gcd (cA t j_x j_fr k) (cD t j_x j_fr k)) = frL (qActive t ey (nI j_x) (nI j_fr) (nI j_to)) (upActive t (nI j_x) (nI j_fr) (nI j_to)) (loActive t (nI j_x) (nI j_fr) (nI j_to)) bt from (show lN ((cD t j_x j_fr k) / Nat.gcd (cA t j_x j_fr k) (cD t j_x j_fr k)) = frL (qActive t ey (nI j_x) (nI j_fr) (nI j_to)) (upActive t (nI j_x) (nI j_fr) (nI j_to)) (loActive t (nI j_x) (nI j_fr) (nI j_to)) bt from by have k9 : okActive ey (nI j_x) (nI j_fr) (nI j_to) := ⟨c_5, c_12, c_19, by rw [e_fr, e_to]; exact c_24⟩; rw [hke] at c_101; first | (simp [qActive, frU, frL, rFr, upActive, loActive, cif_pos k9, e_x, e_fr, e_to, c_101]; done) | (rw [hke]; simp [qActive, frU, frL, rFr, upActive, loActive, cif_pos k9, e_x, e_fr, e_to, c_101]; done))))) (wvC rfl rfl))
              rw [← ew]; exact hP
            exact W.iret (v := nI (if 0 < (cA t j_x j_fr k) then 1 else 0)) hx hb hr (fun zt ht zw => ⟨⟨_, (), rfl, ((nI_o (if 0 < (cA t j_x j_fr k) then 1 else 0)).trans (congrArg oI (show (if 0 < (cA t j_x j_fr k) then 1 else 0) + 1 = (rFr (qActive t ey (nI j_x) (nI j_fr) (nI j_to)) (upActive t (nI j_x) (nI j_fr) (nI j_to))) from by have k9 : okActive ey (nI j_x) (nI j_fr) (nI j_to) := ⟨c_5, c_12, c_19, by rw [e_fr, e_to]; exact c_24⟩; rw [hke] at c_101; first | (simp [qActive, frU, frL, rFr, upActive, loActive, cif_pos k9, e_x, e_fr, e_to, c_101]; done) | (rw [hke]; simp [qActive, frU, frL, rFr, upActive, loActive, cif_pos k9, e_x, e_fr, e_to, c_101]; done)))), by show va_P _ _ _ zt.heap; rw [ht]; exact hP⟩, by rw [hAe]; exact hS.F ht⟩) hS.2.2 dX8_active_122
          refine lv_aload_n hx hb dX8_active_104 rfl (lv_at hl 0 rfl) ?_
          refine lv_iconst (v := nI 5) hx hb dX8_active_105 (by decide) ?_
          refine crw_i (va_runV (As := [.int (nI 5)]) (rest := []) ⟨hx, hb, hml, hown, hts⟩ (c_X8_refuse l G cI cJ (b := b) (st := st) (tp := tp) (bt := bt) (ey := ey) (le := le) (en := en) (wo := wo) (w := nI 5) ) (cwV 1 hts gX8_active_X8_refuse rfl rfl rfl (by decide +kernel) ⟨Nat.le_of_ble_eq_true rfl, Nat.le_of_ble_eq_true rfl⟩) (preV_rw (wc := [oM b st tp bt (nI ey) le en wo]) hK hP hD [0] rfl rfl 8 0 rfl rfl rfl) rfl rfl hl.1 rfl (lv_room (Nat.le_of_ble_eq_true rfl)) dX8_active_106 ⟨Nat.zero_le _, Nat.zero_le _⟩) hP hD hS [0] rfl [b 0] (fun u => rfl) rfl (fun r_106 u_ H locs hw_106 hP hD hS => ?_)
          have hP : va_P G vwCl [oM b (nI 5) tp bt (nI ey) le en wo, aI cI (b 4) 1920 gr] H := hP
          have hD : va_D A [oM b (nI 5) tp bt (nI ey) le en wo, aI cI (b 4) 1920 gr] := hD
          refine toi hw_106 ?_
          refine lv_goto (tgt := 122) hx hb dX8_active_109 (by decide) ?_
          have hP : va_P G vwCl [oM b (nI (qActive t ey (nI j_x) (nI j_fr) (nI j_to))) (frU (qActive t ey (nI j_x) (nI j_fr) (nI j_to)) (upActive t (nI j_x) (nI j_fr) (nI j_to)) (loActive t (nI j_x) (nI j_fr) (nI j_to)) tp) (frL (qActive t ey (nI j_x) (nI j_fr) (nI j_to)) (upActive t (nI j_x) (nI j_fr) (nI j_to)) (loActive t (nI j_x) (nI j_fr) (nI j_to)) bt) (nI ey) le en wo, aI cI (b 4) 1920 gr] H := by
            have ew : ([oM b (nI 5) tp bt (nI ey) le en wo, aI cI (b 4) 1920 gr] : va_W) = [oM b (nI (qActive t ey (nI j_x) (nI j_fr) (nI j_to))) (frU (qActive t ey (nI j_x) (nI j_fr) (nI j_to)) (upActive t (nI j_x) (nI j_fr) (nI j_to)) (loActive t (nI j_x) (nI j_fr) (nI j_to)) tp) (frL (qActive t ey (nI j_x) (nI j_fr) (nI j_to)) (upActive t (nI j_x) (nI j_fr) (nI j_to)) (loActive t (nI j_x) (nI j_fr) (nI j_to)) bt) (nI ey) le en wo, aI cI (b 4) 1920 gr] := (wvC (Eq.trans (Eq.trans (congrArg (fun zz => oM b zz tp bt (nI ey) le en wo) (show nI 5 = nI (qActive t ey (nI j_x) (nI j_fr) (nI j_to)) from (congrArg nI (show 5 = (qActive t ey (nI j_x) (nI j_fr) (nI j_to)) from by have k9 : okActive ey (nI j_x) (nI j_fr) (nI j_to) := ⟨c_5, c_12, c_19, by rw [e_fr, e_to]; exact c_24⟩; rw [hke] at c_101; first | (simp [qActive, frU, frL, rFr, upActive, loActive, cif_pos k9, e_x, e_fr, e_to, c_101]; done) | (rw [hke]; simp [qActive, frU, frL, rFr, upActive, loActive, cif_pos k9, e_x, e_fr, e_to, c_101]; done))))) (congrArg (fun zz => oM b (nI (qActive t ey (nI j_x) (nI j_fr) (nI j_to))) zz bt (nI ey) le en wo) (show tp = frU (qActive t ey (nI j_x) (nI j_fr) (nI j_to)) (upActive t (nI j_x) (nI j_fr) (nI j_to)) (loActive t (nI j_x) (nI j_fr) (nI j_to)) tp from (show tp = frU (qActive t ey (nI j_x) (nI j_fr) (nI j_to)) (upActive t (nI j_x) (nI j_fr) (nI j_to)) (loActive t (nI j_x) (nI j_fr) (nI j_to)) tp from by have k9 : okActive ey (nI j_x) (nI j_fr) (nI j_to) := ⟨c_5, c_12, c_19, by rw [e_fr, e_to]; exact c_24⟩; rw [hke] at c_101; first | (simp [qActive, frU, frL, rFr, upActive, loActive, cif_pos k9, e_x, e_fr, e_to, c_101]; done) | (rw [hke]; simp [qActive, frU, frL, rFr, upActive, loActive, cif_pos k9, e_x, e_fr, e_to, c_101]; done))))) (congrArg (fun zz => oM b (nI (qActive t ey (nI j_x) (nI j_fr) (nI j_to))) (frU (qActive t ey (nI j_x) (nI j_fr) (nI j_to)) (upActive t (nI j_x) (nI j_fr) (nI j_to)) (loActive t (nI j_x) (nI j_fr) (nI j_to)) tp) zz (nI ey) le en wo) (show bt = frL (qActive t ey (nI j_x) (nI j_fr) (nI j_to)) (upActive t (nI j_x) (nI j_fr) (nI j_to)) (loActive t (nI j_x) (nI j_fr) (nI j_to)) bt from (show bt = frL (qActive t ey (nI j_x) (nI j_fr) (nI j_to)) (upActive t (nI j_x) (nI j_fr) (nI j_to)) (loActive t (nI j_x) (nI j_fr) (nI j_to)) bt from by have k9 : okActive ey (nI j_x) (nI j_fr) (nI j_to) := ⟨c_5, c_12, c_19, by rw [e_fr, e_to]; exact c_24⟩; rw [hke] at c_101; first | (simp [qActive, frU, frL, rFr, upActive, loActive, cif_pos k9, e_x, e_fr, e_to, c_101]; done) | (rw [hke]; simp [qActive, frU, frL, rFr, upActive, loActive, cif_pos k9, e_x, e_fr, e_to, c_101]; done))))) (wvC rfl rfl))
            rw [← ew]; exact hP
          exact W.iret (v := (-1)) hx hb hr (fun zt ht zw => ⟨⟨_, (), rfl, (m1_o.trans (congrArg oI (show 0 = (rFr (qActive t ey (nI j_x) (nI j_fr) (nI j_to)) (upActive t (nI j_x) (nI j_fr) (nI j_to))) from by have k9 : okActive ey (nI j_x) (nI j_fr) (nI j_to) := ⟨c_5, c_12, c_19, by rw [e_fr, e_to]; exact c_24⟩; rw [hke] at c_101; first | (simp [qActive, frU, frL, rFr, upActive, loActive, cif_pos k9, e_x, e_fr, e_to, c_101]; done) | (rw [hke]; simp [qActive, frU, frL, rFr, upActive, loActive, cif_pos k9, e_x, e_fr, e_to, c_101]; done)))), by show va_P _ _ _ zt.heap; rw [ht]; exact hP⟩, by rw [hAe]; exact hS.F ht⟩) hS.2.2 dX8_active_122
        refine lv_aload_n hx hb dX8_active_48 rfl (lv_at hl 0 rfl) ?_
        refine va_get (D := G) (own := RX8) (ref := "SpotRowsModel") (ci := 8) (v := .ref (b 4)) (C := RX8) (T := TX8) (N := 23) hx hb hts hinX8 hown hK.1 hP 0 rfl rfl 9 (by decide) fl31 (fun _ h9 => h9) rfl dX8_active_49 ?_
        refine lv_iload_n hx hb dX8_active_52 rfl (lv_at hl 1 rfl) ?_
        refine lv_iload hx hb dX8_active_53 (lv_at hl 6 rfl) ?_
        refine cro_i (va_runS (As := [.int (nI j_x), .int (nI (j_fr + k))]) (rest := [.ref (b 4)]) ⟨hx, hb, hml, hown, hts⟩ (c_X8_at l G cI cJ (x := j_x) (d := j_fr + k) ) (va_cwS 2 hts gX8_active_X8_at rfl rfl rfl (by decide +kernel) ⟨Nat.le_of_ble_eq_true rfl, Nat.le_of_ble_eq_true rfl⟩) (preS_ro (wc := []) hK hP [] rfl) rfl rfl hl.1 rfl (lv_room (Nat.le_of_ble_eq_true rfl)) dX8_active_55 ⟨Nat.zero_le _, Nat.zero_le _⟩) ?_
        refine ld_I hx hb hK hP 1 (k := j_x * 240 + (j_fr + k)) rfl (by first | omega | exact Nat.le_trans (og_le tb _) (by decide)) (by decide) dX8_active_58 ?_
        refine toi (show gr (j_x * 240 + (j_fr + k)) = oI (og t (j_x * 240 + (j_fr + k))) from (hG.1 (j_x * 240 + (j_fr + k)) (by omega))) ?_
        refine lv_iconst (v := (-1)) hx hb dX8_active_59 (by decide) ?_
        refine no_icmp_ne (tgt := 66) hx hb dX8_active_60 (by decide) (by first | omega | exact Nat.le_trans (og_le tb _) (by decide)) (fun c_60 => ?_) (fun c_60 => ?_)
        · have t0 : t (j_x * 240 + (j_fr + k)) ≠ 0 := fun h => c_60 (og_eq.mpr h)
          have f9 := grp_le tb (j_x * 240 + (j_fr + k))
          refine lv_iinc (v := nI (cD t j_x j_fr k + 1)) (lv' := [(4, .int (nI (cD t j_x j_fr k + 1))), (0, .ref (b 0)), (1, .int (nI j_x)), (2, .int (nI j_fr)), (3, .int (nI j_to)), (5, .int (nI (cA t j_x j_fr k))), (6, .int (nI (j_fr + k)))]) hx hb dX8_active_66 hl (k := 4) rfl (nI_add (cD t j_x j_fr k) 1) (by decide) rfl (fun ls hl => ?_)
          refine lv_iload hx hb dX8_active_69 (lv_at hl 5 rfl) ?_
          refine lv_aload_n hx hb dX8_active_71 rfl (lv_at hl 1 rfl) ?_
          refine va_get (D := G) (own := RX8) (ref := "SpotRowsModel") (ci := 8) (v := .ref (b 4)) (C := RX8) (T := TX8) (N := 23) hx hb hts hinX8 hown hK.1 hP 0 rfl rfl 9 (by decide) fl31 (fun _ h9 => h9) rfl dX8_active_72 ?_
          refine lv_iload_n hx hb dX8_active_75 rfl (lv_at hl 2 rfl) ?_
          refine lv_iload hx hb dX8_active_76 (lv_at hl 6 rfl) ?_
          refine cro_i (va_runS (As := [.int (nI j_x), .int (nI (j_fr + k))]) (rest := [.ref (b 4), .int (nI (cA t j_x j_fr k))]) ⟨hx, hb, hml, hown, hts⟩ (c_X8_at l G cI cJ (x := j_x) (d := j_fr + k) ) (va_cwS 2 hts gX8_active_X8_at rfl rfl rfl (by decide +kernel) ⟨Nat.le_of_ble_eq_true rfl, Nat.le_of_ble_eq_true rfl⟩) (preS_ro (wc := []) hK hP [] rfl) rfl rfl hl.1 rfl (lv_room (Nat.le_of_ble_eq_true rfl)) dX8_active_78 ⟨Nat.zero_le _, Nat.zero_le _⟩) ?_
          refine ld_I hx hb hK hP 1 (k := j_x * 240 + (j_fr + k)) rfl (by first | omega | exact Nat.le_trans (og_le tb _) (by decide)) (by decide) dX8_active_81 ?_
          refine toi (show gr (j_x * 240 + (j_fr + k)) = nI (grp t (j_x * 240 + (j_fr + k))) from ((hG.1 (j_x * 240 + (j_fr + k)) (by omega)).trans (og_v t0))) ?_
          refine nv_if_le (tgt := 89) hx hb dX8_active_82 (by decide) (by first | omega | exact Nat.le_trans (og_le tb _) (by decide)) (fun c_82 => ?_) (fun c_82 => ?_)
          · refine lv_iconst (v := nI 0) hx hb dX8_active_89 (by decide) ?_
            refine lv_iadd hx hb dX8_active_90 ?_
            refine toi (nI_add (cA t j_x j_fr k) 0) ?_
            refine lv_istore (lv' := [(5, .int (nI (cA t j_x j_fr k + 0))), (4, .int (nI (cD t j_x j_fr k + 1))), (0, .ref (b 0)), (1, .int (nI j_x)), (2, .int (nI j_fr)), (3, .int (nI j_to)), (6, .int (nI (j_fr + k)))]) hx hb dX8_active_91 hl (by decide) rfl (fun ls hl => ?_)
            refine lv_iinc (v := nI (j_fr + k + 1)) (lv' := [(6, .int (nI (j_fr + k + 1))), (5, .int (nI (cA t j_x j_fr k + 0))), (4, .int (nI (cD t j_x j_fr k + 1))), (0, .ref (b 0)), (1, .int (nI j_x)), (2, .int (nI j_fr)), (3, .int (nI j_to))]) hx hb dX8_active_93 hl (k := 6) rfl (nI_add (j_fr + k) 1) (by decide) rfl (fun ls hl => ?_)
            refine lv_goto (tgt := 42) hx hb dX8_active_96 (by decide) ?_
            exact ih_42 (k + 1) (by first | rfl | omega | (simp_all; done)) (by omega) H locs hP hD hS ls (lvcv (l := [(0, .ref (b 0)), (1, .int (nI j_x)), (2, .int (nI j_fr)), (3, .int (nI j_to)), (4, .int (nI (cD t j_x j_fr k + 1))), (5, .int (nI (cA t j_x j_fr k + 0))), (6, .int (nI (j_fr + k + 1)))]) (lv_sub hl [3, 4, 5, 6, 2, 1, 0] rfl) (lvC (lvC (lvC (lvC (lvI (congrArg nI (show (cD t j_x j_fr k + 1) = (cD t j_x j_fr (k + 1)) from by first | rfl | (simp only [cD, sm_s]; split <;> first | omega | (simp_all; done) | (simp_all; omega)))) (lvI (congrArg nI (show (cA t j_x j_fr k + 0) = (cA t j_x j_fr (k + 1)) from by first | rfl | (simp only [cA, sm_s]; split <;> first | omega | (simp_all; done) | (simp_all; omega)))) (lvI (congrArg nI (show (j_fr + k + 1) = (j_fr + (k + 1)) from by first | rfl | omega | (simp_all; done))) rfl))))))))
          refine lv_iconst (v := nI 1) hx hb dX8_active_85 (by decide) ?_
          refine lv_goto (tgt := 90) hx hb dX8_active_86 (by decide) ?_
          refine lv_iadd hx hb dX8_active_90 ?_
          refine toi (nI_add (cA t j_x j_fr k) 1) ?_
          refine lv_istore (lv' := [(5, .int (nI (cA t j_x j_fr k + 1))), (4, .int (nI (cD t j_x j_fr k + 1))), (0, .ref (b 0)), (1, .int (nI j_x)), (2, .int (nI j_fr)), (3, .int (nI j_to)), (6, .int (nI (j_fr + k)))]) hx hb dX8_active_91 hl (by decide) rfl (fun ls hl => ?_)
          refine lv_iinc (v := nI (j_fr + k + 1)) (lv' := [(6, .int (nI (j_fr + k + 1))), (5, .int (nI (cA t j_x j_fr k + 1))), (4, .int (nI (cD t j_x j_fr k + 1))), (0, .ref (b 0)), (1, .int (nI j_x)), (2, .int (nI j_fr)), (3, .int (nI j_to))]) hx hb dX8_active_93 hl (k := 6) rfl (nI_add (j_fr + k) 1) (by decide) rfl (fun ls hl => ?_)
          refine lv_goto (tgt := 42) hx hb dX8_active_96 (by decide) ?_
          exact ih_42 (k + 1) (by first | rfl | omega | (simp_all; done)) (by omega) H locs hP hD hS ls (lvcv (l := [(0, .ref (b 0)), (1, .int (nI j_x)), (2, .int (nI j_fr)), (3, .int (nI j_to)), (4, .int (nI (cD t j_x j_fr k + 1))), (5, .int (nI (cA t j_x j_fr k + 1))), (6, .int (nI (j_fr + k + 1)))]) (lv_sub hl [3, 4, 5, 6, 2, 1, 0] rfl) (lvC (lvC (lvC (lvC (lvI (congrArg nI (show (cD t j_x j_fr k + 1) = (cD t j_x j_fr (k + 1)) from by first | rfl | (simp only [cD, sm_s]; split <;> first | omega | (simp_all; done) | (simp_all; omega)))) (lvI (congrArg nI (show (cA t j_x j_fr k + 1) = (cA t j_x j_fr (k + 1)) from by first | rfl | (simp only [cA, sm_s]; split <;> first | omega | (simp_all; done) | (simp_all; omega)))) (lvI (congrArg nI (show (j_fr + k + 1) = (j_fr + (k + 1)) from by first | rfl | omega | (simp_all; done))) rfl))))))))
        have t0 : t (j_x * 240 + (j_fr + k)) = 0 := og_eq.mp c_60
        refine lv_goto (tgt := 93) hx hb dX8_active_63 (by decide) ?_
        refine lv_iinc (v := nI (j_fr + k + 1)) (lv' := [(6, .int (nI (j_fr + k + 1))), (0, .ref (b 0)), (1, .int (nI j_x)), (2, .int (nI j_fr)), (3, .int (nI j_to)), (4, .int (nI (cD t j_x j_fr k))), (5, .int (nI (cA t j_x j_fr k)))]) hx hb dX8_active_93 hl (k := 6) rfl (nI_add (j_fr + k) 1) (by decide) rfl (fun ls hl => ?_)
        refine lv_goto (tgt := 42) hx hb dX8_active_96 (by decide) ?_
        exact ih_42 (k + 1) (by first | rfl | omega | (simp_all; done)) (by omega) H locs hP hD hS ls (lvcv (l := [(0, .ref (b 0)), (1, .int (nI j_x)), (2, .int (nI j_fr)), (3, .int (nI j_to)), (4, .int (nI (cD t j_x j_fr k))), (5, .int (nI (cA t j_x j_fr k))), (6, .int (nI (j_fr + k + 1)))]) (lv_sub hl [1, 2, 3, 4, 5, 6, 0] rfl) (lvC (lvC (lvC (lvC (lvI (congrArg nI (show (cD t j_x j_fr k) = (cD t j_x j_fr (k + 1)) from by first | rfl | (simp only [cD, sm_s]; split <;> first | omega | (simp_all; done) | (simp_all; omega)))) (lvI (congrArg nI (show (cA t j_x j_fr k) = (cA t j_x j_fr (k + 1)) from by first | rfl | (simp only [cA, sm_s]; split <;> first | omega | (simp_all; done) | (simp_all; omega)))) (lvI (congrArg nI (show (j_fr + k + 1) = (j_fr + (k + 1)) from by first | rfl | omega | (simp_all; done))) rfl))))))))
    exact lp_42 (j_to + 1 - (j_fr + 0) + 1) 0 (by first | rfl | omega | (simp_all; done)) (by omega) _ _ hP hD hS ls (lvcv (l := [(0, .ref (b 0)), (1, .int (nI j_x)), (2, .int (nI j_fr)), (3, .int (nI j_to)), (4, .int (nI 0)), (5, .int (nI 0)), (6, .int (nI j_fr))]) (lv_sub hl [3, 4, 5, 6, 2, 1, 0] rfl) (lvC (lvC (lvC (lvC (lvI (congrArg nI (show 0 = (cD t j_x j_fr 0) from by rfl)) (lvI (congrArg nI (show 0 = (cA t j_x j_fr 0) from by rfl)) (lvI (congrArg nI (show j_fr = (j_fr + 0) from by first | rfl | omega | (simp_all; done))) rfl))))))))
  refine lv_aload_n hx hb dX8_active_27 rfl (lv_at hl 0 rfl) ?_
  refine lv_iconst (v := nI 1) hx hb dX8_active_28 (by decide) ?_
  refine crw_i (va_runV (As := [.int (nI 1)]) (rest := []) ⟨hx, hb, hml, hown, hts⟩ (c_X8_refuse l G cI cJ (b := b) (st := st) (tp := tp) (bt := bt) (ey := ey) (le := le) (en := en) (wo := wo) (w := nI 1) ) (cwV 1 hts gX8_active_X8_refuse rfl rfl rfl (by decide +kernel) ⟨Nat.le_of_ble_eq_true rfl, Nat.le_of_ble_eq_true rfl⟩) (preV_rw (wc := [oM b st tp bt (nI ey) le en wo]) hK hP hD [0] rfl rfl 8 0 rfl rfl rfl) rfl rfl hl.1 rfl (lv_room (Nat.le_of_ble_eq_true rfl)) dX8_active_29 ⟨Nat.zero_le _, Nat.zero_le _⟩) hP hD hS [0] rfl [b 0] (fun u => rfl) rfl (fun r_29 u_ H locs hw_29 hP hD hS => ?_)
  have hP : va_P G vwCl [oM b (nI 1) tp bt (nI ey) le en wo, aI cI (b 4) 1920 gr] H := hP
  have hD : va_D A [oM b (nI 1) tp bt (nI ey) le en wo, aI cI (b 4) 1920 gr] := hD
  refine toi hw_29 ?_
  have hP : va_P G vwCl [oM b (nI (qActive t ey (nI j_x) (nI j_fr) (nI j_to))) (frU (qActive t ey (nI j_x) (nI j_fr) (nI j_to)) (upActive t (nI j_x) (nI j_fr) (nI j_to)) (loActive t (nI j_x) (nI j_fr) (nI j_to)) tp) (frL (qActive t ey (nI j_x) (nI j_fr) (nI j_to)) (upActive t (nI j_x) (nI j_fr) (nI j_to)) (loActive t (nI j_x) (nI j_fr) (nI j_to)) bt) (nI ey) le en wo, aI cI (b 4) 1920 gr] H := by
    have ew : ([oM b (nI 1) tp bt (nI ey) le en wo, aI cI (b 4) 1920 gr] : va_W) = [oM b (nI (qActive t ey (nI j_x) (nI j_fr) (nI j_to))) (frU (qActive t ey (nI j_x) (nI j_fr) (nI j_to)) (upActive t (nI j_x) (nI j_fr) (nI j_to)) (loActive t (nI j_x) (nI j_fr) (nI j_to)) tp) (frL (qActive t ey (nI j_x) (nI j_fr) (nI j_to)) (upActive t (nI j_x) (nI j_fr) (nI j_to)) (loActive t (nI j_x) (nI j_fr) (nI j_to)) bt) (nI ey) le en wo, aI cI (b 4) 1920 gr] := (wvC (Eq.trans (Eq.trans (congrArg (fun zz => oM b zz tp bt (nI ey) le en wo) (show nI 1 = nI (qActive t ey (nI j_x) (nI j_fr) (nI j_to)) from (congrArg nI (show 1 = (qActive t ey (nI j_x) (nI j_fr) (nI j_to)) from by first | (have k9 : ¬ okActive ey x fr to := (fun h => c_5 h.1); simp [qActive, frU, frL, rFr, cif_neg k9]; done) | (have k9 : ¬ okActive ey (nI j_x) fr to := (fun h => c_12 h.2.1); simp [qActive, frU, frL, rFr, cif_neg k9]; done) | (have k9 : ¬ okActive ey (nI j_x) (nI j_fr) to := (fun h => c_19 h.2.2.1); simp [qActive, frU, frL, rFr, cif_neg k9]; done) | (have k9 : ¬ okActive ey (nI j_x) (nI j_fr) (nI j_to) := (fun h => by have h9 := h.2.2.2; rw [e_fr, e_to] at h9; omega); simp [qActive, frU, frL, rFr, cif_neg k9]; done))))) (congrArg (fun zz => oM b (nI (qActive t ey (nI j_x) (nI j_fr) (nI j_to))) zz bt (nI ey) le en wo) (show tp = frU (qActive t ey (nI j_x) (nI j_fr) (nI j_to)) (upActive t (nI j_x) (nI j_fr) (nI j_to)) (loActive t (nI j_x) (nI j_fr) (nI j_to)) tp from (show tp = frU (qActive t ey (nI j_x) (nI j_fr) (nI j_to)) (upActive t (nI j_x) (nI j_fr) (nI j_to)) (loActive t (nI j_x) (nI j_fr) (nI j_to)) tp from by first | (have k9 : ¬ okActive ey x fr to := (fun h => c_5 h.1); simp [qActive, frU, frL, rFr, cif_neg k9]; done) | (have k9 : ¬ okActive ey (nI j_x) fr to := (fun h => c_12 h.2.1); simp [qActive, frU, frL, rFr, cif_neg k9]; done) | (have k9 : ¬ okActive ey (nI j_x) (nI j_fr) to := (fun h => c_19 h.2.2.1); simp [qActive, frU, frL, rFr, cif_neg k9]; done) | (have k9 : ¬ okActive ey (nI j_x) (nI j_fr) (nI j_to) := (fun h => by have h9 := h.2.2.2; rw [e_fr, e_to] at h9; omega); simp [qActive, frU, frL, rFr, cif_neg k9]; done))))) (congrArg (fun zz => oM b (nI (qActive t ey (nI j_x) (nI j_fr) (nI j_to))) (frU (qActive t ey (nI j_x) (nI j_fr) (nI j_to)) (upActive t (nI j_x) (nI j_fr) (nI j_to)) (loActive t (nI j_x) (nI j_fr) (nI j_to)) tp) zz (nI ey) le en wo) (show bt = frL (qActive t ey (nI j_x) (nI j_fr) (nI j_to)) (upActive t (nI j_x) (nI j_fr) (nI j_to)) (loActive t (nI j_x) (nI j_fr) (nI j_to)) bt from (show bt = frL (qActive t ey (nI j_x) (nI j_fr) (nI j_to)) (upActive t (nI j_x) (nI j_fr) (nI j_to)) (loActive t (nI j_x) (nI j_fr) (nI j_to)) bt from by first | (have k9 : ¬ okActive ey x fr to := (fun h => c_5 h.1); simp [qActive, frU, frL, rFr, cif_neg k9]; done) | (have k9 : ¬ okActive ey (nI j_x) fr to := (fun h => c_12 h.2.1); simp [qActive, frU, frL, rFr, cif_neg k9]; done) | (have k9 : ¬ okActive ey (nI j_x) (nI j_fr) to := (fun h => c_19 h.2.2.1); simp [qActive, frU, frL, rFr, cif_neg k9]; done) | (have k9 : ¬ okActive ey (nI j_x) (nI j_fr) (nI j_to) := (fun h => by have h9 := h.2.2.2; rw [e_fr, e_to] at h9; omega); simp [qActive, frU, frL, rFr, cif_neg k9]; done))))) (wvC rfl rfl))
    rw [← ew]; exact hP
  exact W.iret (v := (-1)) hx hb hr (fun zt ht zw => ⟨⟨_, (), rfl, (m1_o.trans (congrArg oI (show 0 = (rFr (qActive t ey (nI j_x) (nI j_fr) (nI j_to)) (upActive t (nI j_x) (nI j_fr) (nI j_to))) from by first | (have k9 : ¬ okActive ey x fr to := (fun h => c_5 h.1); simp [qActive, frU, frL, rFr, cif_neg k9]; done) | (have k9 : ¬ okActive ey (nI j_x) fr to := (fun h => c_12 h.2.1); simp [qActive, frU, frL, rFr, cif_neg k9]; done) | (have k9 : ¬ okActive ey (nI j_x) (nI j_fr) to := (fun h => c_19 h.2.2.1); simp [qActive, frU, frL, rFr, cif_neg k9]; done) | (have k9 : ¬ okActive ey (nI j_x) (nI j_fr) (nI j_to) := (fun h => by have h9 := h.2.2.2; rw [e_fr, e_to] at h9; omega); simp [qActive, frU, frL, rFr, cif_neg k9]; done)))), by show va_P _ _ _ zt.heap; rw [ht]; exact hP⟩, by rw [hAe]; exact hS.F ht⟩) hS.2.2 dX8_active_32

set_option maxHeartbeats 400000 in
set_option maxRecDepth 100000 in
theorem c_X8_loop (l : Launch) (G : va_G) (cI cJ : ClassId) (b : Nat → Nat) (st : Int32) (tp : Int64) (bt : Int64) (ey : Nat) (le : Nat) (en : Int32) (t : Nat → Nat) (gr : Nat → Int32) (sp : Nat → Int32) (x : Int32) (y : Int32) (w : Int32) (tb : TB t) (hey : ey ≤ 8) (hG : GM t ey gr sp) (hle : le ≤ 100) : Met l yX8_loop wsX8_loop ({ frames := 4, cells := 0, slots := 0, locals := 95 }) (rwP G cI cJ [.ref (b 0), .int x, .int y, .int w] [oM b st tp bt (nI ey) (nI le) en (oI 0), aI cI (b 4) 1920 gr, aI cI (b 5) 1920 sp]) (rwQi G [oM b st tp bt (nI ey) (nI le) en (oI 0), aI cI (b 4) 1920 gr, aI cI (b 5) 1920 sp] (fun (r : Int32) (_ : Unit) => r = oI (rLoop t ey le x y w)) (fun (_ : Unit) => [oM b (nI (qLoop t ey le x y w)) tp bt (nI ey) (nI le) en (oI 0), aI cI (b 4) 1920 gr, aI cI (b 5) 1920 sp])) 0 0 (ads [oM b st tp bt (nI ey) (nI le) en (oI 0), aI cI (b 4) 1920 gr, aI cI (b 5) 1920 sp]) := by
  refine Met.ofW (cc := cX8_loop) (maxL := 10) (ret := (some .int)) (by decide) rfl ?_
  intro pg ev s mt args below meth cd s₁ B hml hv
  obtain ⟨rfl, hP, hD0, hK⟩ := hv
  have hx := B.exec
  have hb := B.bytes
  have hr := B.returns
  have hts := atoms_spec (ws := wsX8_loop) B.pre
  have hown : s.vm.findClass RX8 = some mt.cls := findClass_of_methodNamed B.named
  have hlocks := B.notSynchronized
  have hD := ads_self hD0
  generalize hAe : ads [oM b st tp bt (nI ey) (nI le) en (oI 0), aI cI (b 4) 1920 gr, aI cI (b 5) 1920 sp] = A at hD ⊢
  have hS : va_S A s.heap s.heap [] := va_S.rf
  have hP : va_P G vwCl [oM b st tp bt (nI ey) (nI le) en (oI 0), aI cI (b 4) 1920 gr, aI cI (b 5) 1920 sp] s.heap := hP
  have hinX8 := (show ∀ w ∈ u_ws RX8 TX8 23, w ∈ wsX8_loop by decide +kernel)
  have fl73 := hts (.fieldLink RX8 73 "SpotRowsModel" "status" "I") (by decide +kernel)
  have hl := lv_entry ([.ref (b 0), .int x, .int y, .int w]) (n := 10) (Nat.le_of_ble_eq_true rfl)
  rw [lg_entry_eq]
  generalize (lg_sl ([.ref (b 0), .int x, .int y, .int w]) ++ List.replicate (10 - (lg_sl ([.ref (b 0), .int x, .int y, .int w])).length) Slot.unset).toArray = ls at hl ⊢
  have hl : lv_has ls 10 [(0, .ref (b 0)), (1, .int x), (2, .int y), (3, .int w)] := hl
  refine lv_aload_n hx hb dX8_loop_0 rfl (lv_at hl 0 rfl) ?_
  refine lv_iload_n hx hb dX8_loop_1 rfl (lv_at hl 1 rfl) ?_
  refine lv_iload_n hx hb dX8_loop_2 rfl (lv_at hl 2 rfl) ?_
  refine cro_i (va_runV (As := [.int x, .int y]) (rest := []) ⟨hx, hb, hml, hown, hts⟩ (c_X8_areTwo l G cI cJ (b := b) (st := st) (tp := tp) (bt := bt) (ey := ey) (le := nI le) (en := en) (wo := oI 0) (x := x) (y := y) (hey := by first | assumption | omega)) (cwV 2 hts gX8_loop_X8_areTwo rfl rfl rfl (by decide +kernel) ⟨Nat.le_of_ble_eq_true rfl, Nat.le_of_ble_eq_true rfl⟩) (preV_ro (wc := [oM b st tp bt (nI ey) (nI le) en (oI 0)]) hK hP [0] rfl 8 0 rfl rfl rfl) rfl rfl hl.1 rfl (lv_room (Nat.le_of_ble_eq_true rfl)) dX8_loop_3 ⟨Nat.zero_le _, Nat.zero_le _⟩) ?_
  refine nb_if_eq (tgt := 27) hx hb dX8_loop_6 (by decide) (fun c_6 => ?_) (fun c_6 => ?_)
  · refine lv_aload_n hx hb dX8_loop_27 rfl (lv_at hl 0 rfl) ?_
    refine lv_iconst (v := nI 1) hx hb dX8_loop_28 (by decide) ?_
    refine crw_i (va_runV (As := [.int (nI 1)]) (rest := []) ⟨hx, hb, hml, hown, hts⟩ (c_X8_refuse l G cI cJ (b := b) (st := st) (tp := tp) (bt := bt) (ey := ey) (le := nI le) (en := en) (wo := oI 0) (w := nI 1) ) (cwV 1 hts gX8_loop_X8_refuse rfl rfl rfl (by decide +kernel) ⟨Nat.le_of_ble_eq_true rfl, Nat.le_of_ble_eq_true rfl⟩) (preV_rw (wc := [oM b st tp bt (nI ey) (nI le) en (oI 0)]) hK hP hD [0] rfl rfl 8 0 rfl rfl rfl) rfl rfl hl.1 rfl (lv_room (Nat.le_of_ble_eq_true rfl)) dX8_loop_29 ⟨Nat.zero_le _, Nat.zero_le _⟩) hP hD hS [0] rfl [b 0] (fun u => rfl) rfl (fun r_29 u_ H locs hw_29 hP hD hS => ?_)
    have hP : va_P G vwCl [oM b (nI 1) tp bt (nI ey) (nI le) en (oI 0), aI cI (b 4) 1920 gr, aI cI (b 5) 1920 sp] H := hP
    have hD : va_D A [oM b (nI 1) tp bt (nI ey) (nI le) en (oI 0), aI cI (b 4) 1920 gr, aI cI (b 5) 1920 sp] := hD
    refine toi hw_29 ?_
    have hP : va_P G vwCl [oM b (nI (qLoop t ey le x y w)) tp bt (nI ey) (nI le) en (oI 0), aI cI (b 4) 1920 gr, aI cI (b 5) 1920 sp] H := by
      have ew : ([oM b (nI 1) tp bt (nI ey) (nI le) en (oI 0), aI cI (b 4) 1920 gr, aI cI (b 5) 1920 sp] : va_W) = [oM b (nI (qLoop t ey le x y w)) tp bt (nI ey) (nI le) en (oI 0), aI cI (b 4) 1920 gr, aI cI (b 5) 1920 sp] := (wvC (congrArg (fun zz => oM b zz tp bt (nI ey) (nI le) en (oI 0)) (show nI 1 = nI (qLoop t ey le x y w) from (congrArg nI (show 1 = (qLoop t ey le x y w) from by first | exact (qLoop_no (fun h => c_6 h.1)).1.symm | exact (qLoop_no (fun h => c_6 h.1)).2.symm | exact (qLoop_no (fun h => c_15 h.2.1)).1.symm | exact (qLoop_no (fun h => c_15 h.2.1)).2.symm | exact (qLoop_no (fun h => c_24 ⟨h.1.1, h.2.1.2.1, fun q => h.2.2 (by rw [q])⟩)).1.symm | exact (qLoop_no (fun h => c_24 ⟨h.1.1, h.2.1.2.1, fun q => h.2.2 (by rw [q])⟩)).2.symm)))) (wvC rfl (wvC rfl rfl)))
      rw [← ew]; exact hP
    exact W.iret (v := (-1)) hx hb hr (fun zt ht zw => ⟨⟨_, (), rfl, (m1_o.trans (congrArg oI (show 0 = (rLoop t ey le x y w) from by first | exact (qLoop_no (fun h => c_6 h.1)).1.symm | exact (qLoop_no (fun h => c_6 h.1)).2.symm | exact (qLoop_no (fun h => c_15 h.2.1)).1.symm | exact (qLoop_no (fun h => c_15 h.2.1)).2.symm | exact (qLoop_no (fun h => c_24 ⟨h.1.1, h.2.1.2.1, fun q => h.2.2 (by rw [q])⟩)).1.symm | exact (qLoop_no (fun h => c_24 ⟨h.1.1, h.2.1.2.1, fun q => h.2.2 (by rw [q])⟩)).2.symm))), by show va_P _ _ _ zt.heap; rw [ht]; exact hP⟩, by rw [hAe]; exact hS.F ht⟩) hS.2.2 dX8_loop_32
  obtain ⟨j_x, h_x, rfl⟩ := rg_ex c_6.1
  have e_x := nn_nI (j := j_x) (by omega)
  obtain ⟨j_y, h_y, rfl⟩ := rg_ex c_6.2.1
  have e_y := nn_nI (j := j_y) (by omega)
  have ne_x_y : j_x ≠ j_y := fun h => c_6.2.2 (congrArg nI h)
  refine lv_aload_n hx hb dX8_loop_9 rfl (lv_at hl 0 rfl) ?_
  refine lv_iload_n hx hb dX8_loop_10 rfl (lv_at hl 2 rfl) ?_
  refine lv_iload_n hx hb dX8_loop_11 rfl (lv_at hl 3 rfl) ?_
  refine cro_i (va_runV (As := [.int (nI j_y), .int w]) (rest := []) ⟨hx, hb, hml, hown, hts⟩ (c_X8_areTwo l G cI cJ (b := b) (st := st) (tp := tp) (bt := bt) (ey := ey) (le := nI le) (en := en) (wo := oI 0) (x := nI j_y) (y := w) (hey := by first | assumption | omega)) (cwV 2 hts gX8_loop_X8_areTwo rfl rfl rfl (by decide +kernel) ⟨Nat.le_of_ble_eq_true rfl, Nat.le_of_ble_eq_true rfl⟩) (preV_ro (wc := [oM b st tp bt (nI ey) (nI le) en (oI 0)]) hK hP [0] rfl 8 0 rfl rfl rfl) rfl rfl hl.1 rfl (lv_room (Nat.le_of_ble_eq_true rfl)) dX8_loop_12 ⟨Nat.zero_le _, Nat.zero_le _⟩) ?_
  refine nb_if_eq (tgt := 27) hx hb dX8_loop_15 (by decide) (fun c_15 => ?_) (fun c_15 => ?_)
  · refine lv_aload_n hx hb dX8_loop_27 rfl (lv_at hl 0 rfl) ?_
    refine lv_iconst (v := nI 1) hx hb dX8_loop_28 (by decide) ?_
    refine crw_i (va_runV (As := [.int (nI 1)]) (rest := []) ⟨hx, hb, hml, hown, hts⟩ (c_X8_refuse l G cI cJ (b := b) (st := st) (tp := tp) (bt := bt) (ey := ey) (le := nI le) (en := en) (wo := oI 0) (w := nI 1) ) (cwV 1 hts gX8_loop_X8_refuse rfl rfl rfl (by decide +kernel) ⟨Nat.le_of_ble_eq_true rfl, Nat.le_of_ble_eq_true rfl⟩) (preV_rw (wc := [oM b st tp bt (nI ey) (nI le) en (oI 0)]) hK hP hD [0] rfl rfl 8 0 rfl rfl rfl) rfl rfl hl.1 rfl (lv_room (Nat.le_of_ble_eq_true rfl)) dX8_loop_29 ⟨Nat.zero_le _, Nat.zero_le _⟩) hP hD hS [0] rfl [b 0] (fun u => rfl) rfl (fun r_29 u_ H locs hw_29 hP hD hS => ?_)
    have hP : va_P G vwCl [oM b (nI 1) tp bt (nI ey) (nI le) en (oI 0), aI cI (b 4) 1920 gr, aI cI (b 5) 1920 sp] H := hP
    have hD : va_D A [oM b (nI 1) tp bt (nI ey) (nI le) en (oI 0), aI cI (b 4) 1920 gr, aI cI (b 5) 1920 sp] := hD
    refine toi hw_29 ?_
    have hP : va_P G vwCl [oM b (nI (qLoop t ey le (nI j_x) (nI j_y) w)) tp bt (nI ey) (nI le) en (oI 0), aI cI (b 4) 1920 gr, aI cI (b 5) 1920 sp] H := by
      have ew : ([oM b (nI 1) tp bt (nI ey) (nI le) en (oI 0), aI cI (b 4) 1920 gr, aI cI (b 5) 1920 sp] : va_W) = [oM b (nI (qLoop t ey le (nI j_x) (nI j_y) w)) tp bt (nI ey) (nI le) en (oI 0), aI cI (b 4) 1920 gr, aI cI (b 5) 1920 sp] := (wvC (congrArg (fun zz => oM b zz tp bt (nI ey) (nI le) en (oI 0)) (show nI 1 = nI (qLoop t ey le (nI j_x) (nI j_y) w) from (congrArg nI (show 1 = (qLoop t ey le (nI j_x) (nI j_y) w) from by first | exact (qLoop_no (fun h => c_6 h.1)).1.symm | exact (qLoop_no (fun h => c_6 h.1)).2.symm | exact (qLoop_no (fun h => c_15 h.2.1)).1.symm | exact (qLoop_no (fun h => c_15 h.2.1)).2.symm | exact (qLoop_no (fun h => c_24 ⟨h.1.1, h.2.1.2.1, fun q => h.2.2 (by rw [q])⟩)).1.symm | exact (qLoop_no (fun h => c_24 ⟨h.1.1, h.2.1.2.1, fun q => h.2.2 (by rw [q])⟩)).2.symm)))) (wvC rfl (wvC rfl rfl)))
      rw [← ew]; exact hP
    exact W.iret (v := (-1)) hx hb hr (fun zt ht zw => ⟨⟨_, (), rfl, (m1_o.trans (congrArg oI (show 0 = (rLoop t ey le (nI j_x) (nI j_y) w) from by first | exact (qLoop_no (fun h => c_6 h.1)).1.symm | exact (qLoop_no (fun h => c_6 h.1)).2.symm | exact (qLoop_no (fun h => c_15 h.2.1)).1.symm | exact (qLoop_no (fun h => c_15 h.2.1)).2.symm | exact (qLoop_no (fun h => c_24 ⟨h.1.1, h.2.1.2.1, fun q => h.2.2 (by rw [q])⟩)).1.symm | exact (qLoop_no (fun h => c_24 ⟨h.1.1, h.2.1.2.1, fun q => h.2.2 (by rw [q])⟩)).2.symm))), by show va_P _ _ _ zt.heap; rw [ht]; exact hP⟩, by rw [hAe]; exact hS.F ht⟩) hS.2.2 dX8_loop_32
  obtain ⟨j_w, h_w, rfl⟩ := rg_ex c_15.2.1
  have e_w := nn_nI (j := j_w) (by omega)
  have ne_y_w : j_y ≠ j_w := fun h => c_15.2.2 (congrArg nI h)
  refine lv_aload_n hx hb dX8_loop_18 rfl (lv_at hl 0 rfl) ?_
  refine lv_iload_n hx hb dX8_loop_19 rfl (lv_at hl 1 rfl) ?_
  refine lv_iload_n hx hb dX8_loop_20 rfl (lv_at hl 3 rfl) ?_
  refine cro_i (va_runV (As := [.int (nI j_x), .int (nI j_w)]) (rest := []) ⟨hx, hb, hml, hown, hts⟩ (c_X8_areTwo l G cI cJ (b := b) (st := st) (tp := tp) (bt := bt) (ey := ey) (le := nI le) (en := en) (wo := oI 0) (x := nI j_x) (y := nI j_w) (hey := by first | assumption | omega)) (cwV 2 hts gX8_loop_X8_areTwo rfl rfl rfl (by decide +kernel) ⟨Nat.le_of_ble_eq_true rfl, Nat.le_of_ble_eq_true rfl⟩) (preV_ro (wc := [oM b st tp bt (nI ey) (nI le) en (oI 0)]) hK hP [0] rfl 8 0 rfl rfl rfl) rfl rfl hl.1 rfl (lv_room (Nat.le_of_ble_eq_true rfl)) dX8_loop_21 ⟨Nat.zero_le _, Nat.zero_le _⟩) ?_
  refine nb_if_ne (tgt := 33) hx hb dX8_loop_24 (by decide) (fun c_24 => ?_) (fun c_24 => ?_)
  · have n3 : nI j_x ≠ nI j_w := c_24.2.2
    have d3 : j_x ≠ j_w := fun h => n3 (congrArg nI h)
    refine lv_aload_n hx hb dX8_loop_33 rfl (lv_at hl 0 rfl) ?_
    refine lv_iload_n hx hb dX8_loop_34 rfl (lv_at hl 1 rfl) ?_
    refine lv_iload_n hx hb dX8_loop_35 rfl (lv_at hl 2 rfl) ?_
    refine cro_i (va_runV (As := [.int (nI j_x), .int (nI j_y)]) (rest := []) ⟨hx, hb, hml, hown, hts⟩ (c_X8_factorOf l G cI cJ (b := b) (st := st) (tp := tp) (bt := bt) (ey := ey) (le := le) (en := en) (wo := 0) (t := t) (u := t) (gr := gr) (sp := sp) (x := j_x) (y := j_y) (tb := by first | assumption | omega) (hey := by first | assumption | omega) (hG := by first | assumption | omega) (hu := UW_0 t) (hwo := by omega) (tbu := tb) (h_x := by first | assumption | omega) (h_y := by first | assumption | omega) (hle := by first | assumption | omega)) (cwV 2 hts gX8_loop_X8_factorOf rfl rfl rfl (by decide +kernel) ⟨Nat.le_of_ble_eq_true rfl, Nat.le_of_ble_eq_true rfl⟩) (preV_ro (wc := [oM b st tp bt (nI ey) (nI le) en (oI 0), aI cI (b 4) 1920 gr, aI cI (b 5) 1920 sp]) hK hP [0, 1, 2] rfl 8 0 rfl rfl rfl) rfl rfl hl.1 rfl (lv_room (Nat.le_of_ble_eq_true rfl)) dX8_loop_36 ⟨Nat.zero_le _, Nat.zero_le _⟩) ?_
    refine lv_i2l (v := oL (fc t le j_x j_y)) hx hb dX8_loop_39 (oI_l (by first | omega | exact Nat.le_trans (TB_le tb _) (by decide) | exact Nat.lt_of_le_of_lt (TB_le tb _) (by decide) | exact Nat.le_trans (fc_le _ _ _ _) (by decide) | exact Nat.lt_of_le_of_lt (fc_le _ _ _ _) (by decide))) ?_
    refine lv_lstore (lv' := [(4, .long (oL (fc t le j_x j_y))), (0, .ref (b 0)), (1, .int (nI j_x)), (2, .int (nI j_y)), (3, .int (nI j_w))]) hx hb dX8_loop_40 hl (by decide) rfl (fun ls hl => ?_)
    refine lv_aload_n hx hb dX8_loop_42 rfl (lv_at hl 1 rfl) ?_
    refine lv_iload_n hx hb dX8_loop_43 rfl (lv_at hl 3 rfl) ?_
    refine lv_iload_n hx hb dX8_loop_44 rfl (lv_at hl 4 rfl) ?_
    refine cro_i (va_runV (As := [.int (nI j_y), .int (nI j_w)]) (rest := []) ⟨hx, hb, hml, hown, hts⟩ (c_X8_factorOf l G cI cJ (b := b) (st := st) (tp := tp) (bt := bt) (ey := ey) (le := le) (en := en) (wo := 0) (t := t) (u := t) (gr := gr) (sp := sp) (x := j_y) (y := j_w) (tb := by first | assumption | omega) (hey := by first | assumption | omega) (hG := by first | assumption | omega) (hu := UW_0 t) (hwo := by omega) (tbu := tb) (h_x := by first | assumption | omega) (h_y := by first | assumption | omega) (hle := by first | assumption | omega)) (cwV 2 hts gX8_loop_X8_factorOf rfl rfl rfl (by decide +kernel) ⟨Nat.le_of_ble_eq_true rfl, Nat.le_of_ble_eq_true rfl⟩) (preV_ro (wc := [oM b st tp bt (nI ey) (nI le) en (oI 0), aI cI (b 4) 1920 gr, aI cI (b 5) 1920 sp]) hK hP [0, 1, 2] rfl 8 0 rfl rfl rfl) rfl rfl hl.1 rfl (lv_room (Nat.le_of_ble_eq_true rfl)) dX8_loop_45 ⟨Nat.zero_le _, Nat.zero_le _⟩) ?_
    refine lv_i2l (v := oL (fc t le j_y j_w)) hx hb dX8_loop_48 (oI_l (by first | omega | exact Nat.le_trans (TB_le tb _) (by decide) | exact Nat.lt_of_le_of_lt (TB_le tb _) (by decide) | exact Nat.le_trans (fc_le _ _ _ _) (by decide) | exact Nat.lt_of_le_of_lt (fc_le _ _ _ _) (by decide))) ?_
    refine lv_lstore (lv' := [(6, .long (oL (fc t le j_y j_w))), (4, .long (oL (fc t le j_x j_y))), (0, .ref (b 0)), (1, .int (nI j_x)), (2, .int (nI j_y)), (3, .int (nI j_w))]) hx hb dX8_loop_49 hl (by decide) rfl (fun ls hl => ?_)
    refine lv_aload_n hx hb dX8_loop_51 rfl (lv_at hl 2 rfl) ?_
    refine lv_iload_n hx hb dX8_loop_52 rfl (lv_at hl 5 rfl) ?_
    refine lv_iload_n hx hb dX8_loop_53 rfl (lv_at hl 3 rfl) ?_
    refine cro_i (va_runV (As := [.int (nI j_w), .int (nI j_x)]) (rest := []) ⟨hx, hb, hml, hown, hts⟩ (c_X8_factorOf l G cI cJ (b := b) (st := st) (tp := tp) (bt := bt) (ey := ey) (le := le) (en := en) (wo := 0) (t := t) (u := t) (gr := gr) (sp := sp) (x := j_w) (y := j_x) (tb := by first | assumption | omega) (hey := by first | assumption | omega) (hG := by first | assumption | omega) (hu := UW_0 t) (hwo := by omega) (tbu := tb) (h_x := by first | assumption | omega) (h_y := by first | assumption | omega) (hle := by first | assumption | omega)) (cwV 2 hts gX8_loop_X8_factorOf rfl rfl rfl (by decide +kernel) ⟨Nat.le_of_ble_eq_true rfl, Nat.le_of_ble_eq_true rfl⟩) (preV_ro (wc := [oM b st tp bt (nI ey) (nI le) en (oI 0), aI cI (b 4) 1920 gr, aI cI (b 5) 1920 sp]) hK hP [0, 1, 2] rfl 8 0 rfl rfl rfl) rfl rfl hl.1 rfl (lv_room (Nat.le_of_ble_eq_true rfl)) dX8_loop_54 ⟨Nat.zero_le _, Nat.zero_le _⟩) ?_
    refine lv_i2l (v := oL (fc t le j_w j_x)) hx hb dX8_loop_57 (oI_l (by first | omega | exact Nat.le_trans (TB_le tb _) (by decide) | exact Nat.lt_of_le_of_lt (TB_le tb _) (by decide) | exact Nat.le_trans (fc_le _ _ _ _) (by decide) | exact Nat.lt_of_le_of_lt (fc_le _ _ _ _) (by decide))) ?_
    refine lv_lstore (lv' := [(8, .long (oL (fc t le j_w j_x))), (6, .long (oL (fc t le j_y j_w))), (4, .long (oL (fc t le j_x j_y))), (0, .ref (b 0)), (1, .int (nI j_x)), (2, .int (nI j_y)), (3, .int (nI j_w))]) hx hb dX8_loop_58 hl (by decide) rfl (fun ls hl => ?_)
    refine lv_lload hx hb dX8_loop_60 (lv_at hl 2 rfl) ?_
    refine lv_ldc2 (own := RX8) (v := -1) hx hb hown (hts (.constantLong RX8 94 (-1)) (by decide +kernel)) dX8_loop_62 ?_
    refine nol_if_eq (tgt := 87) hx hb dX8_loop_65 dX8_loop_66 (by decide) (by first | omega | exact Nat.le_trans (TB_le tb _) (by decide) | exact Nat.lt_of_le_of_lt (TB_le tb _) (by decide) | exact Nat.le_trans (fc_le _ _ _ _) (by decide) | exact Nat.lt_of_le_of_lt (fc_le _ _ _ _) (by decide)) (fun c_66 => ?_) (fun c_66 => ?_)
    · refine lv_aload_n hx hb dX8_loop_87 rfl (lv_at hl 3 rfl) ?_
      refine lv_bipush (v := nI 6) hx hb dX8_loop_88 (by decide) ?_
      refine crw_i (va_runV (As := [.int (nI 6)]) (rest := []) ⟨hx, hb, hml, hown, hts⟩ (c_X8_refuse l G cI cJ (b := b) (st := st) (tp := tp) (bt := bt) (ey := ey) (le := nI le) (en := en) (wo := oI 0) (w := nI 6) ) (cwV 1 hts gX8_loop_X8_refuse rfl rfl rfl (by decide +kernel) ⟨Nat.le_of_ble_eq_true rfl, Nat.le_of_ble_eq_true rfl⟩) (preV_rw (wc := [oM b st tp bt (nI ey) (nI le) en (oI 0)]) hK hP hD [0] rfl rfl 8 0 rfl rfl rfl) rfl rfl hl.1 rfl (lv_room (Nat.le_of_ble_eq_true rfl)) dX8_loop_90 ⟨Nat.zero_le _, Nat.zero_le _⟩) hP hD hS [0] rfl [b 0] (fun u => rfl) rfl (fun r_90 u_ H locs hw_90 hP hD hS => ?_)
      have hP : va_P G vwCl [oM b (nI 6) tp bt (nI ey) (nI le) en (oI 0), aI cI (b 4) 1920 gr, aI cI (b 5) 1920 sp] H := hP
      have hD : va_D A [oM b (nI 6) tp bt (nI ey) (nI le) en (oI 0), aI cI (b 4) 1920 gr, aI cI (b 5) 1920 sp] := hD
      refine toi hw_90 ?_
      have hP : va_P G vwCl [oM b (nI (qLoop t ey le (nI j_x) (nI j_y) (nI j_w))) tp bt (nI ey) (nI le) en (oI 0), aI cI (b 4) 1920 gr, aI cI (b 5) 1920 sp] H := by
        have ew : ([oM b (nI 6) tp bt (nI ey) (nI le) en (oI 0), aI cI (b 4) 1920 gr, aI cI (b 5) 1920 sp] : va_W) = [oM b (nI (qLoop t ey le (nI j_x) (nI j_y) (nI j_w))) tp bt (nI ey) (nI le) en (oI 0), aI cI (b 4) 1920 gr, aI cI (b 5) 1920 sp] := (wvC (congrArg (fun zz => oM b zz tp bt (nI ey) (nI le) en (oI 0)) (show nI 6 = nI (qLoop t ey le (nI j_x) (nI j_y) (nI j_w)) from (congrArg nI (show 6 = (qLoop t ey le (nI j_x) (nI j_y) (nI j_w)) from by first | rfl | (simp only [rLoop, qLoop, okLoop, pr, cif_T, cif_F, ctold, c_6, e_x, e_y, c_15, e_w, c_24, d3]; done) | (simp [rLoop, qLoop, okLoop, pr, cif_T, cif_F, ctold, c_6, e_x, e_y, c_15, e_w, c_24, d3]; done) | (simp [rLoop, qLoop, okLoop, pr, cif_T, cif_F, ctold, c_6, e_x, e_y, c_15, e_w, c_24, d3]; simp [c_66]; done) | (simp [rLoop, qLoop, okLoop, pr, cif_T, cif_F, ctold, c_6, e_x, e_y, c_15, e_w, c_24, d3, c_66]; done) | omega | (simp [rLoop, qLoop, okLoop, pr, cif_T, cif_F, ctold, c_6, e_x, e_y, c_15, e_w, c_24, d3]; omega) | (simp [rLoop, qLoop, okLoop, pr, cif_T, cif_F, ctold, c_6, e_x, e_y, c_15, e_w, c_24, d3, c_66]; omega))))) (wvC rfl (wvC rfl rfl)))
        rw [← ew]; exact hP
      exact W.iret (v := (-1)) hx hb hr (fun zt ht zw => ⟨⟨_, (), rfl, (m1_o.trans (congrArg oI (show 0 = (rLoop t ey le (nI j_x) (nI j_y) (nI j_w)) from by first | rfl | (simp only [rLoop, qLoop, okLoop, pr, cif_T, cif_F, ctold, c_6, e_x, e_y, c_15, e_w, c_24, d3]; done) | (simp [rLoop, qLoop, okLoop, pr, cif_T, cif_F, ctold, c_6, e_x, e_y, c_15, e_w, c_24, d3]; done) | (simp [rLoop, qLoop, okLoop, pr, cif_T, cif_F, ctold, c_6, e_x, e_y, c_15, e_w, c_24, d3]; simp [c_66]; done) | (simp [rLoop, qLoop, okLoop, pr, cif_T, cif_F, ctold, c_6, e_x, e_y, c_15, e_w, c_24, d3, c_66]; done) | omega | (simp [rLoop, qLoop, okLoop, pr, cif_T, cif_F, ctold, c_6, e_x, e_y, c_15, e_w, c_24, d3]; omega) | (simp [rLoop, qLoop, okLoop, pr, cif_T, cif_F, ctold, c_6, e_x, e_y, c_15, e_w, c_24, d3, c_66]; omega)))), by show va_P _ _ _ zt.heap; rw [ht]; exact hP⟩, by rw [hAe]; exact hS.F ht⟩) hS.2.2 dX8_loop_93
    refine lv_lload hx hb dX8_loop_69 (lv_at hl 1 rfl) ?_
    refine lv_ldc2 (own := RX8) (v := -1) hx hb hown (hts (.constantLong RX8 94 (-1)) (by decide +kernel)) dX8_loop_71 ?_
    refine nol_if_eq (tgt := 87) hx hb dX8_loop_74 dX8_loop_75 (by decide) (by first | omega | exact Nat.le_trans (TB_le tb _) (by decide) | exact Nat.lt_of_le_of_lt (TB_le tb _) (by decide) | exact Nat.le_trans (fc_le _ _ _ _) (by decide) | exact Nat.lt_of_le_of_lt (fc_le _ _ _ _) (by decide)) (fun c_75 => ?_) (fun c_75 => ?_)
    · refine lv_aload_n hx hb dX8_loop_87 rfl (lv_at hl 3 rfl) ?_
      refine lv_bipush (v := nI 6) hx hb dX8_loop_88 (by decide) ?_
      refine crw_i (va_runV (As := [.int (nI 6)]) (rest := []) ⟨hx, hb, hml, hown, hts⟩ (c_X8_refuse l G cI cJ (b := b) (st := st) (tp := tp) (bt := bt) (ey := ey) (le := nI le) (en := en) (wo := oI 0) (w := nI 6) ) (cwV 1 hts gX8_loop_X8_refuse rfl rfl rfl (by decide +kernel) ⟨Nat.le_of_ble_eq_true rfl, Nat.le_of_ble_eq_true rfl⟩) (preV_rw (wc := [oM b st tp bt (nI ey) (nI le) en (oI 0)]) hK hP hD [0] rfl rfl 8 0 rfl rfl rfl) rfl rfl hl.1 rfl (lv_room (Nat.le_of_ble_eq_true rfl)) dX8_loop_90 ⟨Nat.zero_le _, Nat.zero_le _⟩) hP hD hS [0] rfl [b 0] (fun u => rfl) rfl (fun r_90 u_ H locs hw_90 hP hD hS => ?_)
      have hP : va_P G vwCl [oM b (nI 6) tp bt (nI ey) (nI le) en (oI 0), aI cI (b 4) 1920 gr, aI cI (b 5) 1920 sp] H := hP
      have hD : va_D A [oM b (nI 6) tp bt (nI ey) (nI le) en (oI 0), aI cI (b 4) 1920 gr, aI cI (b 5) 1920 sp] := hD
      refine toi hw_90 ?_
      have hP : va_P G vwCl [oM b (nI (qLoop t ey le (nI j_x) (nI j_y) (nI j_w))) tp bt (nI ey) (nI le) en (oI 0), aI cI (b 4) 1920 gr, aI cI (b 5) 1920 sp] H := by
        have ew : ([oM b (nI 6) tp bt (nI ey) (nI le) en (oI 0), aI cI (b 4) 1920 gr, aI cI (b 5) 1920 sp] : va_W) = [oM b (nI (qLoop t ey le (nI j_x) (nI j_y) (nI j_w))) tp bt (nI ey) (nI le) en (oI 0), aI cI (b 4) 1920 gr, aI cI (b 5) 1920 sp] := (wvC (congrArg (fun zz => oM b zz tp bt (nI ey) (nI le) en (oI 0)) (show nI 6 = nI (qLoop t ey le (nI j_x) (nI j_y) (nI j_w)) from (congrArg nI (show 6 = (qLoop t ey le (nI j_x) (nI j_y) (nI j_w)) from by first | rfl | (simp only [rLoop, qLoop, okLoop, pr, cif_T, cif_F, ctold, c_6, e_x, e_y, c_15, e_w, c_24, d3]; done) | (simp [rLoop, qLoop, okLoop, pr, cif_T, cif_F, ctold, c_6, e_x, e_y, c_15, e_w, c_24, d3]; done) | (simp [rLoop, qLoop, okLoop, pr, cif_T, cif_F, ctold, c_6, e_x, e_y, c_15, e_w, c_24, d3]; simp [c_66, c_75]; done) | (simp [rLoop, qLoop, okLoop, pr, cif_T, cif_F, ctold, c_6, e_x, e_y, c_15, e_w, c_24, d3, c_66, c_75]; done) | omega | (simp [rLoop, qLoop, okLoop, pr, cif_T, cif_F, ctold, c_6, e_x, e_y, c_15, e_w, c_24, d3]; omega) | (simp [rLoop, qLoop, okLoop, pr, cif_T, cif_F, ctold, c_6, e_x, e_y, c_15, e_w, c_24, d3, c_66, c_75]; omega))))) (wvC rfl (wvC rfl rfl)))
        rw [← ew]; exact hP
      exact W.iret (v := (-1)) hx hb hr (fun zt ht zw => ⟨⟨_, (), rfl, (m1_o.trans (congrArg oI (show 0 = (rLoop t ey le (nI j_x) (nI j_y) (nI j_w)) from by first | rfl | (simp only [rLoop, qLoop, okLoop, pr, cif_T, cif_F, ctold, c_6, e_x, e_y, c_15, e_w, c_24, d3]; done) | (simp [rLoop, qLoop, okLoop, pr, cif_T, cif_F, ctold, c_6, e_x, e_y, c_15, e_w, c_24, d3]; done) | (simp [rLoop, qLoop, okLoop, pr, cif_T, cif_F, ctold, c_6, e_x, e_y, c_15, e_w, c_24, d3]; simp [c_66, c_75]; done) | (simp [rLoop, qLoop, okLoop, pr, cif_T, cif_F, ctold, c_6, e_x, e_y, c_15, e_w, c_24, d3, c_66, c_75]; done) | omega | (simp [rLoop, qLoop, okLoop, pr, cif_T, cif_F, ctold, c_6, e_x, e_y, c_15, e_w, c_24, d3]; omega) | (simp [rLoop, qLoop, okLoop, pr, cif_T, cif_F, ctold, c_6, e_x, e_y, c_15, e_w, c_24, d3, c_66, c_75]; omega)))), by show va_P _ _ _ zt.heap; rw [ht]; exact hP⟩, by rw [hAe]; exact hS.F ht⟩) hS.2.2 dX8_loop_93
    refine lv_lload hx hb dX8_loop_78 (lv_at hl 0 rfl) ?_
    refine lv_ldc2 (own := RX8) (v := -1) hx hb hown (hts (.constantLong RX8 94 (-1)) (by decide +kernel)) dX8_loop_80 ?_
    refine nol_if_ne (tgt := 94) hx hb dX8_loop_83 dX8_loop_84 (by decide) (by first | omega | exact Nat.le_trans (TB_le tb _) (by decide) | exact Nat.lt_of_le_of_lt (TB_le tb _) (by decide) | exact Nat.le_trans (fc_le _ _ _ _) (by decide) | exact Nat.lt_of_le_of_lt (fc_le _ _ _ _) (by decide)) (fun c_84 => ?_) (fun c_84 => ?_)
    · have k1 := fc_le t le j_x j_y
      have k2 := fc_le t le j_y j_w
      have k3 := fc_le t le j_w j_x
      have k4 := mul3 (c := 100000) (show fc t le j_x j_y - 1 ≤ 100000 by omega) (show fc t le j_y j_w - 1 ≤ 100000 by omega) (show fc t le j_w j_x - 1 ≤ 100000 by omega)
      refine lv_aload_n hx hb dX8_loop_94 rfl (lv_at hl 3 rfl) ?_
      refine lv_iconst (v := nI 0) hx hb dX8_loop_95 (by decide) ?_
      refine va_put (D := G) (own := RX8) (ref := "SpotRowsModel") (ci := 8) (v := .int (nI 0)) (ty := .int) (C := RX8) (T := TX8) (N := 23) hx hb hts hinX8 tyX8 tyX8_ok nmX8 hown hK.1 hP hD hS 0 rfl rfl 0 (by decide) fl73 (fun _ h9 => h9) rfl (by decide +kernel) rfl rfl (Nat.le_of_ble_eq_true rfl) dX8_loop_96 (fun H locs hP hD hS => ?_)
      have hP : va_P G vwCl [oM b (nI 0) tp bt (nI ey) (nI le) en (oI 0), aI cI (b 4) 1920 gr, aI cI (b 5) 1920 sp] H := hP
      have hD : va_D A [oM b (nI 0) tp bt (nI ey) (nI le) en (oI 0), aI cI (b 4) 1920 gr, aI cI (b 5) 1920 sp] := hD
      refine lv_lload hx hb dX8_loop_99 (lv_at hl 2 rfl) ?_
      refine tol (oL_pos (by first | assumption | omega)) ?_
      refine lv_lload hx hb dX8_loop_101 (lv_at hl 1 rfl) ?_
      refine tol (oL_pos (by first | assumption | omega)) ?_
      refine lv_lmul hx hb dX8_loop_103 ?_
      refine tol (lN_mul (fc t le j_x j_y - 1) (fc t le j_y j_w - 1)) ?_
      refine lv_lload hx hb dX8_loop_104 (lv_at hl 0 rfl) ?_
      refine tol (oL_pos (by first | assumption | omega)) ?_
      refine lv_lmul hx hb dX8_loop_106 ?_
      refine tol (lN_mul ((fc t le j_x j_y - 1) * (fc t le j_y j_w - 1)) (fc t le j_w j_x - 1)) ?_
      refine lv_ldc2 (own := RX8) (v := 1000000) hx hb hown (hts (.constantLong RX8 164 (1000000)) (by decide +kernel)) dX8_loop_107 ?_
      refine tol (show (1000000 : Int64) = lN 1000000 by decide) ?_
      refine lv_ldiv hx hb dX8_loop_110 (lN_ne0 (by first | omega | exact Nat.le_trans (TB_le tb _) (by decide) | exact Nat.lt_of_le_of_lt (TB_le tb _) (by decide) | exact Nat.le_trans (fc_le _ _ _ _) (by decide) | exact Nat.lt_of_le_of_lt (fc_le _ _ _ _) (by decide)) (by first | omega | exact Nat.le_trans (TB_le tb _) (by decide) | exact Nat.lt_of_le_of_lt (TB_le tb _) (by decide) | exact Nat.le_trans (fc_le _ _ _ _) (by decide) | exact Nat.lt_of_le_of_lt (fc_le _ _ _ _) (by decide))) ?_
      refine tol (pk_lDiv (a := ((fc t le j_x j_y - 1) * (fc t le j_y j_w - 1) * (fc t le j_w j_x - 1))) (b := 1000000) (by first | omega | exact Nat.le_trans (TB_le tb _) (by decide) | exact Nat.lt_of_le_of_lt (TB_le tb _) (by decide) | exact Nat.le_trans (fc_le _ _ _ _) (by decide) | exact Nat.lt_of_le_of_lt (fc_le _ _ _ _) (by decide)) (by first | omega | exact Nat.le_trans (TB_le tb _) (by decide) | exact Nat.lt_of_le_of_lt (TB_le tb _) (by decide) | exact Nat.le_trans (fc_le _ _ _ _) (by decide) | exact Nat.lt_of_le_of_lt (fc_le _ _ _ _) (by decide)) (by first | omega | exact Nat.le_trans (TB_le tb _) (by decide) | exact Nat.lt_of_le_of_lt (TB_le tb _) (by decide) | exact Nat.le_trans (fc_le _ _ _ _) (by decide) | exact Nat.lt_of_le_of_lt (fc_le _ _ _ _) (by decide))) ?_
      refine lv_l2i (v := nI ((fc t le j_x j_y - 1) * (fc t le j_y j_w - 1) * (fc t le j_w j_x - 1) / 1000000)) hx hb dX8_loop_111 (lN_i ((fc t le j_x j_y - 1) * (fc t le j_y j_w - 1) * (fc t le j_w j_x - 1) / 1000000)) ?_
      have hP : va_P G vwCl [oM b (nI (qLoop t ey le (nI j_x) (nI j_y) (nI j_w))) tp bt (nI ey) (nI le) en (oI 0), aI cI (b 4) 1920 gr, aI cI (b 5) 1920 sp] H := by
        have ew : ([oM b (nI 0) tp bt (nI ey) (nI le) en (oI 0), aI cI (b 4) 1920 gr, aI cI (b 5) 1920 sp] : va_W) = [oM b (nI (qLoop t ey le (nI j_x) (nI j_y) (nI j_w))) tp bt (nI ey) (nI le) en (oI 0), aI cI (b 4) 1920 gr, aI cI (b 5) 1920 sp] := (wvC (congrArg (fun zz => oM b zz tp bt (nI ey) (nI le) en (oI 0)) (show nI 0 = nI (qLoop t ey le (nI j_x) (nI j_y) (nI j_w)) from (congrArg nI (show 0 = (qLoop t ey le (nI j_x) (nI j_y) (nI j_w)) from by first | rfl | (simp only [rLoop, qLoop, okLoop, pr, cif_T, cif_F, ctold, c_6, e_x, e_y, c_15, e_w, c_24, d3]; done) | (simp [rLoop, qLoop, okLoop, pr, cif_T, cif_F, ctold, c_6, e_x, e_y, c_15, e_w, c_24, d3]; done) | (simp [rLoop, qLoop, okLoop, pr, cif_T, cif_F, ctold, c_6, e_x, e_y, c_15, e_w, c_24, d3]; simp [c_66, c_75, c_84]; done) | (simp [rLoop, qLoop, okLoop, pr, cif_T, cif_F, ctold, c_6, e_x, e_y, c_15, e_w, c_24, d3, c_66, c_75, c_84]; done) | omega | (simp [rLoop, qLoop, okLoop, pr, cif_T, cif_F, ctold, c_6, e_x, e_y, c_15, e_w, c_24, d3]; omega) | (simp [rLoop, qLoop, okLoop, pr, cif_T, cif_F, ctold, c_6, e_x, e_y, c_15, e_w, c_24, d3, c_66, c_75, c_84]; omega))))) (wvC rfl (wvC rfl rfl)))
        rw [← ew]; exact hP
      exact W.iret (v := nI ((fc t le j_x j_y - 1) * (fc t le j_y j_w - 1) * (fc t le j_w j_x - 1) / 1000000)) hx hb hr (fun zt ht zw => ⟨⟨_, (), rfl, ((nI_o ((fc t le j_x j_y - 1) * (fc t le j_y j_w - 1) * (fc t le j_w j_x - 1) / 1000000)).trans (congrArg oI (show ((fc t le j_x j_y - 1) * (fc t le j_y j_w - 1) * (fc t le j_w j_x - 1) / 1000000) + 1 = (rLoop t ey le (nI j_x) (nI j_y) (nI j_w)) from by first | rfl | (simp only [rLoop, qLoop, okLoop, pr, cif_T, cif_F, ctold, c_6, e_x, e_y, c_15, e_w, c_24, d3]; done) | (simp [rLoop, qLoop, okLoop, pr, cif_T, cif_F, ctold, c_6, e_x, e_y, c_15, e_w, c_24, d3]; done) | (simp [rLoop, qLoop, okLoop, pr, cif_T, cif_F, ctold, c_6, e_x, e_y, c_15, e_w, c_24, d3]; simp [c_66, c_75, c_84]; done) | (simp [rLoop, qLoop, okLoop, pr, cif_T, cif_F, ctold, c_6, e_x, e_y, c_15, e_w, c_24, d3, c_66, c_75, c_84]; done) | omega | (simp [rLoop, qLoop, okLoop, pr, cif_T, cif_F, ctold, c_6, e_x, e_y, c_15, e_w, c_24, d3]; omega) | (simp [rLoop, qLoop, okLoop, pr, cif_T, cif_F, ctold, c_6, e_x, e_y, c_15, e_w, c_24, d3, c_66, c_75, c_84]; omega)))), by show va_P _ _ _ zt.heap; rw [ht]; exact hP⟩, by rw [hAe]; exact hS.F ht⟩) hS.2.2 dX8_loop_112
    refine lv_aload_n hx hb dX8_loop_87 rfl (lv_at hl 3 rfl) ?_
    refine lv_bipush (v := nI 6) hx hb dX8_loop_88 (by decide) ?_
    refine crw_i (va_runV (As := [.int (nI 6)]) (rest := []) ⟨hx, hb, hml, hown, hts⟩ (c_X8_refuse l G cI cJ (b := b) (st := st) (tp := tp) (bt := bt) (ey := ey) (le := nI le) (en := en) (wo := oI 0) (w := nI 6) ) (cwV 1 hts gX8_loop_X8_refuse rfl rfl rfl (by decide +kernel) ⟨Nat.le_of_ble_eq_true rfl, Nat.le_of_ble_eq_true rfl⟩) (preV_rw (wc := [oM b st tp bt (nI ey) (nI le) en (oI 0)]) hK hP hD [0] rfl rfl 8 0 rfl rfl rfl) rfl rfl hl.1 rfl (lv_room (Nat.le_of_ble_eq_true rfl)) dX8_loop_90 ⟨Nat.zero_le _, Nat.zero_le _⟩) hP hD hS [0] rfl [b 0] (fun u => rfl) rfl (fun r_90 u_ H locs hw_90 hP hD hS => ?_)
    have hP : va_P G vwCl [oM b (nI 6) tp bt (nI ey) (nI le) en (oI 0), aI cI (b 4) 1920 gr, aI cI (b 5) 1920 sp] H := hP
    have hD : va_D A [oM b (nI 6) tp bt (nI ey) (nI le) en (oI 0), aI cI (b 4) 1920 gr, aI cI (b 5) 1920 sp] := hD
    refine toi hw_90 ?_
    have hP : va_P G vwCl [oM b (nI (qLoop t ey le (nI j_x) (nI j_y) (nI j_w))) tp bt (nI ey) (nI le) en (oI 0), aI cI (b 4) 1920 gr, aI cI (b 5) 1920 sp] H := by
      have ew : ([oM b (nI 6) tp bt (nI ey) (nI le) en (oI 0), aI cI (b 4) 1920 gr, aI cI (b 5) 1920 sp] : va_W) = [oM b (nI (qLoop t ey le (nI j_x) (nI j_y) (nI j_w))) tp bt (nI ey) (nI le) en (oI 0), aI cI (b 4) 1920 gr, aI cI (b 5) 1920 sp] := (wvC (congrArg (fun zz => oM b zz tp bt (nI ey) (nI le) en (oI 0)) (show nI 6 = nI (qLoop t ey le (nI j_x) (nI j_y) (nI j_w)) from (congrArg nI (show 6 = (qLoop t ey le (nI j_x) (nI j_y) (nI j_w)) from by first | rfl | (simp only [rLoop, qLoop, okLoop, pr, cif_T, cif_F, ctold, c_6, e_x, e_y, c_15, e_w, c_24, d3]; done) | (simp [rLoop, qLoop, okLoop, pr, cif_T, cif_F, ctold, c_6, e_x, e_y, c_15, e_w, c_24, d3]; done) | (simp [rLoop, qLoop, okLoop, pr, cif_T, cif_F, ctold, c_6, e_x, e_y, c_15, e_w, c_24, d3]; simp [c_66, c_75, c_84]; done) | (simp [rLoop, qLoop, okLoop, pr, cif_T, cif_F, ctold, c_6, e_x, e_y, c_15, e_w, c_24, d3, c_66, c_75, c_84]; done) | omega | (simp [rLoop, qLoop, okLoop, pr, cif_T, cif_F, ctold, c_6, e_x, e_y, c_15, e_w, c_24, d3]; omega) | (simp [rLoop, qLoop, okLoop, pr, cif_T, cif_F, ctold, c_6, e_x, e_y, c_15, e_w, c_24, d3, c_66, c_75, c_84]; omega))))) (wvC rfl (wvC rfl rfl)))
      rw [← ew]; exact hP
    exact W.iret (v := (-1)) hx hb hr (fun zt ht zw => ⟨⟨_, (), rfl, (m1_o.trans (congrArg oI (show 0 = (rLoop t ey le (nI j_x) (nI j_y) (nI j_w)) from by first | rfl | (simp only [rLoop, qLoop, okLoop, pr, cif_T, cif_F, ctold, c_6, e_x, e_y, c_15, e_w, c_24, d3]; done) | (simp [rLoop, qLoop, okLoop, pr, cif_T, cif_F, ctold, c_6, e_x, e_y, c_15, e_w, c_24, d3]; done) | (simp [rLoop, qLoop, okLoop, pr, cif_T, cif_F, ctold, c_6, e_x, e_y, c_15, e_w, c_24, d3]; simp [c_66, c_75, c_84]; done) | (simp [rLoop, qLoop, okLoop, pr, cif_T, cif_F, ctold, c_6, e_x, e_y, c_15, e_w, c_24, d3, c_66, c_75, c_84]; done) | omega | (simp [rLoop, qLoop, okLoop, pr, cif_T, cif_F, ctold, c_6, e_x, e_y, c_15, e_w, c_24, d3]; omega) | (simp [rLoop, qLoop, okLoop, pr, cif_T, cif_F, ctold, c_6, e_x, e_y, c_15, e_w, c_24, d3, c_66, c_75, c_84]; omega)))), by show va_P _ _ _ zt.heap; rw [ht]; exact hP⟩, by rw [hAe]; exact hS.F ht⟩) hS.2.2 dX8_loop_93
  refine lv_aload_n hx hb dX8_loop_27 rfl (lv_at hl 0 rfl) ?_
  refine lv_iconst (v := nI 1) hx hb dX8_loop_28 (by decide) ?_
  refine crw_i (va_runV (As := [.int (nI 1)]) (rest := []) ⟨hx, hb, hml, hown, hts⟩ (c_X8_refuse l G cI cJ (b := b) (st := st) (tp := tp) (bt := bt) (ey := ey) (le := nI le) (en := en) (wo := oI 0) (w := nI 1) ) (cwV 1 hts gX8_loop_X8_refuse rfl rfl rfl (by decide +kernel) ⟨Nat.le_of_ble_eq_true rfl, Nat.le_of_ble_eq_true rfl⟩) (preV_rw (wc := [oM b st tp bt (nI ey) (nI le) en (oI 0)]) hK hP hD [0] rfl rfl 8 0 rfl rfl rfl) rfl rfl hl.1 rfl (lv_room (Nat.le_of_ble_eq_true rfl)) dX8_loop_29 ⟨Nat.zero_le _, Nat.zero_le _⟩) hP hD hS [0] rfl [b 0] (fun u => rfl) rfl (fun r_29 u_ H locs hw_29 hP hD hS => ?_)
  have hP : va_P G vwCl [oM b (nI 1) tp bt (nI ey) (nI le) en (oI 0), aI cI (b 4) 1920 gr, aI cI (b 5) 1920 sp] H := hP
  have hD : va_D A [oM b (nI 1) tp bt (nI ey) (nI le) en (oI 0), aI cI (b 4) 1920 gr, aI cI (b 5) 1920 sp] := hD
  refine toi hw_29 ?_
  have hP : va_P G vwCl [oM b (nI (qLoop t ey le (nI j_x) (nI j_y) (nI j_w))) tp bt (nI ey) (nI le) en (oI 0), aI cI (b 4) 1920 gr, aI cI (b 5) 1920 sp] H := by
    have ew : ([oM b (nI 1) tp bt (nI ey) (nI le) en (oI 0), aI cI (b 4) 1920 gr, aI cI (b 5) 1920 sp] : va_W) = [oM b (nI (qLoop t ey le (nI j_x) (nI j_y) (nI j_w))) tp bt (nI ey) (nI le) en (oI 0), aI cI (b 4) 1920 gr, aI cI (b 5) 1920 sp] := (wvC (congrArg (fun zz => oM b zz tp bt (nI ey) (nI le) en (oI 0)) (show nI 1 = nI (qLoop t ey le (nI j_x) (nI j_y) (nI j_w)) from (congrArg nI (show 1 = (qLoop t ey le (nI j_x) (nI j_y) (nI j_w)) from by first | exact (qLoop_no (fun h => c_6 h.1)).1.symm | exact (qLoop_no (fun h => c_6 h.1)).2.symm | exact (qLoop_no (fun h => c_15 h.2.1)).1.symm | exact (qLoop_no (fun h => c_15 h.2.1)).2.symm | exact (qLoop_no (fun h => c_24 ⟨h.1.1, h.2.1.2.1, fun q => h.2.2 (by rw [q])⟩)).1.symm | exact (qLoop_no (fun h => c_24 ⟨h.1.1, h.2.1.2.1, fun q => h.2.2 (by rw [q])⟩)).2.symm)))) (wvC rfl (wvC rfl rfl)))
    rw [← ew]; exact hP
  exact W.iret (v := (-1)) hx hb hr (fun zt ht zw => ⟨⟨_, (), rfl, (m1_o.trans (congrArg oI (show 0 = (rLoop t ey le (nI j_x) (nI j_y) (nI j_w)) from by first | exact (qLoop_no (fun h => c_6 h.1)).1.symm | exact (qLoop_no (fun h => c_6 h.1)).2.symm | exact (qLoop_no (fun h => c_15 h.2.1)).1.symm | exact (qLoop_no (fun h => c_15 h.2.1)).2.symm | exact (qLoop_no (fun h => c_24 ⟨h.1.1, h.2.1.2.1, fun q => h.2.2 (by rw [q])⟩)).1.symm | exact (qLoop_no (fun h => c_24 ⟨h.1.1, h.2.1.2.1, fun q => h.2.2 (by rw [q])⟩)).2.symm))), by show va_P _ _ _ zt.heap; rw [ht]; exact hP⟩, by rw [hAe]; exact hS.F ht⟩) hS.2.2 dX8_loop_32

set_option maxHeartbeats 400000 in
set_option maxRecDepth 100000 in
theorem c_X8_blind (l : Launch) (G : va_G) (cI cJ : ClassId) (b : Nat → Nat) (st : Int32) (tp : Int64) (bt : Int64) (ey : Nat) (le : Nat) (en : Int32) (t : Nat → Nat) (gr : Nat → Int32) (sp : Nat → Int32) (x : Int32) (y : Int32) (tb : TB t) (hey : ey ≤ 8) (hG : GM t ey gr sp) : Met l yX8_blind wsX8_blind ({ frames := 4, cells := 0, slots := 0, locals := 90 }) (rwP G cI cJ [.ref (b 0), .int x, .int y] [oM b st tp bt (nI ey) (nI le) en (oI 0), aI cI (b 4) 1920 gr]) (rwQi G [oM b st tp bt (nI ey) (nI le) en (oI 0), aI cI (b 4) 1920 gr] (fun (r : Int32) (_ : Unit) => r = oI (rBlind t ey x y)) (fun (_ : Unit) => [oM b (nI (qBlind t ey x y)) tp bt (nI ey) (nI le) en (oI 0), aI cI (b 4) 1920 gr])) 0 0 (ads [oM b st tp bt (nI ey) (nI le) en (oI 0), aI cI (b 4) 1920 gr]) := by
  refine Met.ofW (cc := cX8_blind) (maxL := 8) (ret := (some .int)) (by decide) rfl ?_
  intro pg ev s mt args below meth cd s₁ B hml hv
  obtain ⟨rfl, hP, hD0, hK⟩ := hv
  have hx := B.exec
  have hb := B.bytes
  have hr := B.returns
  have hts := atoms_spec (ws := wsX8_blind) B.pre
  have hown : s.vm.findClass RX8 = some mt.cls := findClass_of_methodNamed B.named
  have hlocks := B.notSynchronized
  have hD := ads_self hD0
  generalize hAe : ads [oM b st tp bt (nI ey) (nI le) en (oI 0), aI cI (b 4) 1920 gr] = A at hD ⊢
  have hS : va_S A s.heap s.heap [] := va_S.rf
  have hP : va_P G vwCl [oM b st tp bt (nI ey) (nI le) en (oI 0), aI cI (b 4) 1920 gr] s.heap := hP
  have hinX8 := (show ∀ w ∈ u_ws RX8 TX8 23, w ∈ wsX8_blind by decide +kernel)
  have fl73 := hts (.fieldLink RX8 73 "SpotRowsModel" "status" "I") (by decide +kernel)
  have fl31 := hts (.fieldLink RX8 31 "SpotRowsModel" "groups" "[I") (by decide +kernel)
  have hl := lv_entry ([.ref (b 0), .int x, .int y]) (n := 8) (Nat.le_of_ble_eq_true rfl)
  rw [lg_entry_eq]
  generalize (lg_sl ([.ref (b 0), .int x, .int y]) ++ List.replicate (8 - (lg_sl ([.ref (b 0), .int x, .int y])).length) Slot.unset).toArray = ls at hl ⊢
  have hl : lv_has ls 8 [(0, .ref (b 0)), (1, .int x), (2, .int y)] := hl
  refine lv_aload_n hx hb dX8_blind_0 rfl (lv_at hl 0 rfl) ?_
  refine lv_iload_n hx hb dX8_blind_1 rfl (lv_at hl 1 rfl) ?_
  refine lv_iload_n hx hb dX8_blind_2 rfl (lv_at hl 2 rfl) ?_
  refine cro_i (va_runV (As := [.int x, .int y]) (rest := []) ⟨hx, hb, hml, hown, hts⟩ (c_X8_areTwo l G cI cJ (b := b) (st := st) (tp := tp) (bt := bt) (ey := ey) (le := nI le) (en := en) (wo := oI 0) (x := x) (y := y) (hey := by first | assumption | omega)) (cwV 2 hts gX8_blind_X8_areTwo rfl rfl rfl (by decide +kernel) ⟨Nat.le_of_ble_eq_true rfl, Nat.le_of_ble_eq_true rfl⟩) (preV_ro (wc := [oM b st tp bt (nI ey) (nI le) en (oI 0)]) hK hP [0] rfl 8 0 rfl rfl rfl) rfl rfl hl.1 rfl (lv_room (Nat.le_of_ble_eq_true rfl)) dX8_blind_3 ⟨Nat.zero_le _, Nat.zero_le _⟩) ?_
  refine nb_if_ne (tgt := 15) hx hb dX8_blind_6 (by decide) (fun c_6 => ?_) (fun c_6 => ?_)
  · obtain ⟨j_x, h_x, rfl⟩ := rg_ex c_6.1
    have e_x := nn_nI (j := j_x) (by omega)
    obtain ⟨j_y, h_y, rfl⟩ := rg_ex c_6.2.1
    have e_y := nn_nI (j := j_y) (by omega)
    have ne_x_y : j_x ≠ j_y := fun h => c_6.2.2 (congrArg nI h)
    refine lv_aload_n hx hb dX8_blind_15 rfl (lv_at hl 0 rfl) ?_
    refine lv_iload_n hx hb dX8_blind_16 rfl (lv_at hl 1 rfl) ?_
    refine lv_iload_n hx hb dX8_blind_17 rfl (lv_at hl 2 rfl) ?_
    have f9 := cB_le t j_x j_y 240
    refine cro_i (va_runV (As := [.int (nI j_x), .int (nI j_y)]) (rest := []) ⟨hx, hb, hml, hown, hts⟩ (c_X8_bothOf l G cI cJ (b := b) (st := st) (tp := tp) (bt := bt) (ey := ey) (le := le) (en := en) (wo := 0) (t := t) (u := t) (gr := gr) (sp := sp) (x := j_x) (y := j_y) (tb := by first | assumption | omega) (hey := by first | assumption | omega) (hG := by first | assumption | omega) (hu := UW_0 t) (hwo := by omega) (h_x := by first | assumption | omega) (h_y := by first | assumption | omega)) (cwV 2 hts gX8_blind_X8_bothOf rfl rfl rfl (by decide +kernel) ⟨Nat.le_of_ble_eq_true rfl, Nat.le_of_ble_eq_true rfl⟩) (preV_ro (wc := [oM b st tp bt (nI ey) (nI le) en (oI 0), aI cI (b 4) 1920 gr]) hK hP [0, 1] rfl 8 0 rfl rfl rfl) rfl rfl hl.1 rfl (lv_room (Nat.le_of_ble_eq_true rfl)) dX8_blind_18 ⟨Nat.zero_le _, Nat.zero_le _⟩) ?_
    refine nv_if_ne (tgt := 31) hx hb dX8_blind_21 (by decide) (by omega) (fun c_21 => ?_) (fun c_21 => ?_)
    · refine lv_aload_n hx hb dX8_blind_31 rfl (lv_at hl 0 rfl) ?_
      refine lv_iconst (v := nI 0) hx hb dX8_blind_32 (by decide) ?_
      refine va_put (D := G) (own := RX8) (ref := "SpotRowsModel") (ci := 8) (v := .int (nI 0)) (ty := .int) (C := RX8) (T := TX8) (N := 23) hx hb hts hinX8 tyX8 tyX8_ok nmX8 hown hK.1 hP hD hS 0 rfl rfl 0 (by decide) fl73 (fun _ h9 => h9) rfl (by decide +kernel) rfl rfl (Nat.le_of_ble_eq_true rfl) dX8_blind_33 (fun H locs hP hD hS => ?_)
      have hP : va_P G vwCl [oM b (nI 0) tp bt (nI ey) (nI le) en (oI 0), aI cI (b 4) 1920 gr] H := hP
      have hD : va_D A [oM b (nI 0) tp bt (nI ey) (nI le) en (oI 0), aI cI (b 4) 1920 gr] := hD
      refine lv_iconst (v := nI 0) hx hb dX8_blind_36 (by decide) ?_
      refine lv_istore_n (lv' := [(3, .int (nI 0)), (0, .ref (b 0)), (1, .int (nI j_x)), (2, .int (nI j_y))]) hx hb dX8_blind_37 rfl hl (by decide) rfl (fun ls hl => ?_)
      refine lv_iconst (v := nI 0) hx hb dX8_blind_38 (by decide) ?_
      refine lv_istore (lv' := [(4, .int (nI 0)), (3, .int (nI 0)), (0, .ref (b 0)), (1, .int (nI j_x)), (2, .int (nI j_y))]) hx hb dX8_blind_39 hl (by decide) rfl (fun ls hl => ?_)
      have lp_41 : ∀ (nf : Nat) (k : Nat), (k ≤ 240) → 240 - k < nf → ∀ (H : Heap) (locs : List Loc), va_P G vwCl [oM b (nI 0) tp bt (nI ey) (nI le) en (oI 0), aI cI (b 4) 1920 gr] H → va_D A [oM b (nI 0) tp bt (nI ey) (nI le) en (oI 0), aI cI (b 4) 1920 gr] → va_S A s.heap H locs → ∀ (ls : Array Slot), lv_has ls 8 [(0, .ref (b 0)), (1, .int (nI j_x)), (2, .int (nI j_y)), (3, .int (nI (cG t j_x j_y 0 k))), (4, .int (nI k))] → W pg l ev (headSpec wsX8_blind ({ frames := 4, cells := 0, slots := 0, locals := 90 })).room s mt ([.ref (b 0), .int (nI j_x), .int (nI j_y)] : List Value).toArray below meth cd H locs 0 0 (MQ below (rwQi G [oM b st tp bt (nI ey) (nI le) en (oI 0), aI cI (b 4) 1920 gr] (fun (r : Int32) (_ : Unit) => r = oI (rBlind t ey (nI j_x) (nI j_y))) (fun (_ : Unit) => [oM b (nI (qBlind t ey (nI j_x) (nI j_y))) tp bt (nI ey) (nI le) en (oI 0), aI cI (b 4) 1920 gr])) ([.ref (b 0), .int (nI j_x), .int (nI j_y)] : List Value).toArray s 0 0 A) (F0 mt 41 ls []) := by
        intro nf
        induction nf with
        | zero => intro k hk hfu; exact absurd hfu (Nat.not_lt_zero _)
        | succ nf ih_41 =>
          intro k hk hfu H locs hP hD hS ls hl
          have f1 := cG_le t j_x j_y 0 k
          have f2 := grp_le tb (j_x * 240 + k)
          refine lv_iload hx hb dX8_blind_41 (lv_at hl 4 rfl) ?_
          refine lv_sipush (v := nI 240) hx hb dX8_blind_43 (by decide) ?_
          refine nv_icmp_ge (tgt := 88) hx hb dX8_blind_46 (by decide) (by omega) (by omega) (fun c_46 => ?_) (fun c_46 => ?_)
          · refine lv_iconst (v := nI 0) hx hb dX8_blind_88 (by decide) ?_
            refine lv_istore (lv' := [(4, .int (nI 0)), (0, .ref (b 0)), (1, .int (nI j_x)), (2, .int (nI j_y)), (3, .int (nI (cG t j_x j_y 0 k)))]) hx hb dX8_blind_89 hl (by decide) rfl (fun ls hl => ?_)
            refine lv_iconst (v := nI 1) hx hb dX8_blind_91 (by decide) ?_
            refine lv_istore (lv' := [(5, .int (nI 1)), (4, .int (nI 0)), (0, .ref (b 0)), (1, .int (nI j_x)), (2, .int (nI j_y)), (3, .int (nI (cG t j_x j_y 0 k)))]) hx hb dX8_blind_92 hl (by decide) rfl (fun ls hl => ?_)
            have lp_94 : ∀ (nf : Nat) (s_ : Nat) (mo : Nat), (mo ≤ 1) → (s_ ≤ 20) → ((mo = 1 → blin t j_x j_y (cG t j_x j_y 0 240) 20 0 = blin t j_x j_y (cG t j_x j_y 0 240) (20 - s_) s_) ∧ (mo = 0 → blin t j_x j_y (cG t j_x j_y 0 240) 20 0 = s_)) → 2 * (20 - s_) + mo < nf → ∀ (H : Heap) (locs : List Loc), va_P G vwCl [oM b (nI 0) tp bt (nI ey) (nI le) en (oI 0), aI cI (b 4) 1920 gr] H → va_D A [oM b (nI 0) tp bt (nI ey) (nI le) en (oI 0), aI cI (b 4) 1920 gr] → va_S A s.heap H locs → ∀ (ls : Array Slot), lv_has ls 8 [(0, .ref (b 0)), (1, .int (nI j_x)), (2, .int (nI j_y)), (3, .int (nI (cG t j_x j_y 0 240))), (4, .int (nI s_)), (5, .int (nI mo))] → W pg l ev (headSpec wsX8_blind ({ frames := 4, cells := 0, slots := 0, locals := 90 })).room s mt ([.ref (b 0), .int (nI j_x), .int (nI j_y)] : List Value).toArray below meth cd H locs 0 0 (MQ below (rwQi G [oM b st tp bt (nI ey) (nI le) en (oI 0), aI cI (b 4) 1920 gr] (fun (r : Int32) (_ : Unit) => r = oI (rBlind t ey (nI j_x) (nI j_y))) (fun (_ : Unit) => [oM b (nI (qBlind t ey (nI j_x) (nI j_y))) tp bt (nI ey) (nI le) en (oI 0), aI cI (b 4) 1920 gr])) ([.ref (b 0), .int (nI j_x), .int (nI j_y)] : List Value).toArray s 0 0 A) (F0 mt 94 ls []) := by
              intro nf
              induction nf with
              | zero => intro s_ mo hm hs hq hfu; exact absurd hfu (Nat.not_lt_zero _)
              | succ nf ih_94 =>
                intro s_ mo hm hs hq hfu H locs hP hD hS ls hl
                refine lv_iload hx hb dX8_blind_94 (lv_at hl 5 rfl) ?_
                refine nv_if_eq (tgt := 180) hx hb dX8_blind_96 (by decide) (by omega) (fun c_96 => ?_) (fun c_96 => ?_)
                · refine lv_iload hx hb dX8_blind_180 (lv_at hl 4 rfl) ?_
                  have hP : va_P G vwCl [oM b (nI (qBlind t ey (nI j_x) (nI j_y))) tp bt (nI ey) (nI le) en (oI 0), aI cI (b 4) 1920 gr] H := by
                    have ew : ([oM b (nI 0) tp bt (nI ey) (nI le) en (oI 0), aI cI (b 4) 1920 gr] : va_W) = [oM b (nI (qBlind t ey (nI j_x) (nI j_y))) tp bt (nI ey) (nI le) en (oI 0), aI cI (b 4) 1920 gr] := (wvC (congrArg (fun zz => oM b zz tp bt (nI ey) (nI le) en (oI 0)) (show nI 0 = nI (qBlind t ey (nI j_x) (nI j_y)) from (congrArg nI (show 0 = (qBlind t ey (nI j_x) (nI j_y)) from by simp [qBlind, pr, c_6, cif_T, e_x, e_y, c_21])))) (wvC rfl rfl))
                    rw [← ew]; exact hP
                  exact W.iret (v := nI s_) hx hb hr (fun zt ht zw => ⟨⟨_, (), rfl, ((nI_o s_).trans (congrArg oI (show s_ + 1 = (rBlind t ey (nI j_x) (nI j_y)) from by simp [rBlind, qBlind, pr, c_6, cif_T, e_x, e_y, c_21, hq.2 c_96]))), by show va_P _ _ _ zt.heap; rw [ht]; exact hP⟩, by rw [hAe]; exact hS.F ht⟩) hS.2.2 dX8_blind_182
                refine lv_iconst (v := nI 0) hx hb dX8_blind_99 (by decide) ?_
                refine lv_istore (lv' := [(6, .int (nI 0)), (0, .ref (b 0)), (1, .int (nI j_x)), (2, .int (nI j_y)), (3, .int (nI (cG t j_x j_y 0 240))), (4, .int (nI s_)), (5, .int (nI mo))]) hx hb dX8_blind_100 hl (by decide) rfl (fun ls hl => ?_)
                refine lv_iconst (v := nI 0) hx hb dX8_blind_102 (by decide) ?_
                refine lv_istore (lv' := [(7, .int (nI 0)), (6, .int (nI 0)), (0, .ref (b 0)), (1, .int (nI j_x)), (2, .int (nI j_y)), (3, .int (nI (cG t j_x j_y 0 240))), (4, .int (nI s_)), (5, .int (nI mo))]) hx hb dX8_blind_103 hl (by decide) rfl (fun ls hl => ?_)
                have lp_105 : ∀ (nf : Nat) (i : Nat), (i ≤ 240) → 240 - i < nf → ∀ (H : Heap) (locs : List Loc), va_P G vwCl [oM b (nI 0) tp bt (nI ey) (nI le) en (oI 0), aI cI (b 4) 1920 gr] H → va_D A [oM b (nI 0) tp bt (nI ey) (nI le) en (oI 0), aI cI (b 4) 1920 gr] → va_S A s.heap H locs → ∀ (ls : Array Slot), lv_has ls 8 [(0, .ref (b 0)), (1, .int (nI j_x)), (2, .int (nI j_y)), (3, .int (nI (cG t j_x j_y 0 240))), (4, .int (nI s_)), (5, .int (nI mo)), (6, .int (nI (cG t j_y j_x s_ i))), (7, .int (nI i))] → W pg l ev (headSpec wsX8_blind ({ frames := 4, cells := 0, slots := 0, locals := 90 })).room s mt ([.ref (b 0), .int (nI j_x), .int (nI j_y)] : List Value).toArray below meth cd H locs 0 0 (MQ below (rwQi G [oM b st tp bt (nI ey) (nI le) en (oI 0), aI cI (b 4) 1920 gr] (fun (r : Int32) (_ : Unit) => r = oI (rBlind t ey (nI j_x) (nI j_y))) (fun (_ : Unit) => [oM b (nI (qBlind t ey (nI j_x) (nI j_y))) tp bt (nI ey) (nI le) en (oI 0), aI cI (b 4) 1920 gr])) ([.ref (b 0), .int (nI j_x), .int (nI j_y)] : List Value).toArray s 0 0 A) (F0 mt 105 ls []) := by
                  intro nf
                  induction nf with
                  | zero => intro i hi hfu; exact absurd hfu (Nat.not_lt_zero _)
                  | succ nf ih_105 =>
                    intro i hi hfu H locs hP hD hS ls hl
                    have f1 := cG_le t j_y j_x s_ i
                    have f2 := grp_le tb (j_y * 240 + i)
                    have f3 := cG_le t j_x j_y 0 240
                    refine lv_iload hx hb dX8_blind_105 (lv_at hl 7 rfl) ?_
                    refine lv_sipush (v := nI 240) hx hb dX8_blind_107 (by decide) ?_
                    refine nv_icmp_ge (tgt := 156) hx hb dX8_blind_110 (by decide) (by omega) (by omega) (fun c_110 => ?_) (fun c_110 => ?_)
                    · refine lv_iload hx hb dX8_blind_156 (lv_at hl 6 rfl) ?_
                      refine lv_iload_n hx hb dX8_blind_158 rfl (lv_at hl 3 rfl) ?_
                      refine nv_icmp_le (tgt := 166) hx hb dX8_blind_159 (by decide) (by omega) (by omega) (fun c_159 => ?_) (fun c_159 => ?_)
                      · refine lv_iconst (v := nI 0) hx hb dX8_blind_166 (by decide) ?_
                        refine lv_istore (lv' := [(5, .int (nI 0)), (0, .ref (b 0)), (1, .int (nI j_x)), (2, .int (nI j_y)), (3, .int (nI (cG t j_x j_y 0 240))), (4, .int (nI s_)), (6, .int (nI (cG t j_y j_x s_ i))), (7, .int (nI i))]) hx hb dX8_blind_167 hl (by decide) rfl (fun ls hl => ?_)
                        refine lv_iload hx hb dX8_blind_169 (lv_at hl 0 rfl) ?_
                        refine lv_if_eq (tgt := 177) hx hb dX8_blind_171 (by decide) (fun h => ?_) (fun h => absurd (show nI 0 = 0 by decide) h)
                        refine lv_goto (tgt := 94) hx hb dX8_blind_177 (by decide) ?_
                        exact ih_94 s_ 0 (by omega) (by omega) (by first | (rw [show i = 240 from by omega] at c_159; exact ⟨fun _ => by rw [hq.1 (by omega), show 20 - s_ = 20 - (s_ + 1) + 1 from by omega, blin, if_pos ⟨h20, c_159⟩], fun h => absurd h (by decide)⟩) | (rw [show i = 240 from by omega] at c_159; exact ⟨fun h => absurd h (by decide), fun _ => by rw [hq.1 (by omega)]; exact blin_stop (fun h => absurd h.2 (by omega))⟩)) (by omega) H locs hP hD hS ls (lvcv (l := [(0, .ref (b 0)), (1, .int (nI j_x)), (2, .int (nI j_y)), (3, .int (nI (cG t j_x j_y 0 240))), (4, .int (nI s_)), (5, .int (nI 0))]) (lv_sub hl [1, 2, 3, 4, 5, 0] rfl) (lvC (lvC (lvC (lvC (lvC (lvC rfl)))))))
                      have h20 : s_ < 20 := (by apply Nat.lt_of_not_le; intro h; have h2 := cG_20 tb j_y j_x h 240; rw [show i = 240 from by omega, h2] at c_159; omega)
                      refine lv_iconst (v := nI 1) hx hb dX8_blind_162 (by decide) ?_
                      refine lv_goto (tgt := 167) hx hb dX8_blind_163 (by decide) ?_
                      refine lv_istore (lv' := [(5, .int (nI 1)), (0, .ref (b 0)), (1, .int (nI j_x)), (2, .int (nI j_y)), (3, .int (nI (cG t j_x j_y 0 240))), (4, .int (nI s_)), (6, .int (nI (cG t j_y j_x s_ i))), (7, .int (nI i))]) hx hb dX8_blind_167 hl (by decide) rfl (fun ls hl => ?_)
                      refine lv_iload hx hb dX8_blind_169 (lv_at hl 0 rfl) ?_
                      refine lv_if_eq (tgt := 177) hx hb dX8_blind_171 (by decide) (fun h => absurd h (show ¬ nI 1 = 0 by decide)) (fun h => ?_)
                      refine lv_iinc (v := nI (s_ + 1)) (lv' := [(4, .int (nI (s_ + 1))), (5, .int (nI 1)), (0, .ref (b 0)), (1, .int (nI j_x)), (2, .int (nI j_y)), (3, .int (nI (cG t j_x j_y 0 240))), (6, .int (nI (cG t j_y j_x s_ i))), (7, .int (nI i))]) hx hb dX8_blind_174 hl (k := 5) rfl (nI_add s_ 1) (by decide) rfl (fun ls hl => ?_)
                      refine lv_goto (tgt := 94) hx hb dX8_blind_177 (by decide) ?_
                      exact ih_94 (s_ + 1) 1 (by omega) (by omega) (by first | (rw [show i = 240 from by omega] at c_159; exact ⟨fun _ => by rw [hq.1 (by omega), show 20 - s_ = 20 - (s_ + 1) + 1 from by omega, blin, if_pos ⟨h20, c_159⟩], fun h => absurd h (by decide)⟩) | (rw [show i = 240 from by omega] at c_159; exact ⟨fun h => absurd h (by decide), fun _ => by rw [hq.1 (by omega)]; exact blin_stop (fun h => absurd h.2 (by omega))⟩)) (by omega) H locs hP hD hS ls (lvcv (l := [(0, .ref (b 0)), (1, .int (nI j_x)), (2, .int (nI j_y)), (3, .int (nI (cG t j_x j_y 0 240))), (4, .int (nI (s_ + 1))), (5, .int (nI 1))]) (lv_sub hl [2, 3, 4, 5, 0, 1] rfl) (lvC (lvC (lvC (lvC (lvC (lvC rfl)))))))
                    refine lv_iload hx hb dX8_blind_113 (lv_at hl 6 rfl) ?_
                    refine lv_aload_n hx hb dX8_blind_115 rfl (lv_at hl 0 rfl) ?_
                    refine lv_iload_n hx hb dX8_blind_116 rfl (lv_at hl 1 rfl) ?_
                    refine lv_iload_n hx hb dX8_blind_117 rfl (lv_at hl 2 rfl) ?_
                    refine lv_iload hx hb dX8_blind_118 (lv_at hl 7 rfl) ?_
                    refine cro_i (va_runV (As := [.int (nI j_x), .int (nI j_y), .int (nI i)]) (rest := [.int (nI (cG t j_y j_x s_ i))]) ⟨hx, hb, hml, hown, hts⟩ (c_X8_areBoth l G cI cJ (b := b) (st := nI 0) (tp := tp) (bt := bt) (ey := ey) (le := le) (en := en) (wo := 0) (t := t) (u := t) (gr := gr) (sp := sp) (x := j_x) (y := j_y) (d := i) (tb := by first | assumption | omega) (hey := by first | assumption | omega) (hG := by first | assumption | omega) (hu := UW_0 t) (hwo := by omega) (h_x := by first | assumption | omega) (h_y := by first | assumption | omega) (h_d := by first | assumption | omega)) (cwV 3 hts gX8_blind_X8_areBoth rfl rfl rfl (by decide +kernel) ⟨Nat.le_of_ble_eq_true rfl, Nat.le_of_ble_eq_true rfl⟩) (preV_ro (wc := [oM b (nI 0) tp bt (nI ey) (nI le) en (oI 0), aI cI (b 4) 1920 gr]) hK hP [0, 1] rfl 8 0 rfl rfl rfl) rfl rfl hl.1 rfl (lv_room (Nat.le_of_ble_eq_true rfl)) dX8_blind_120 ⟨Nat.zero_le _, Nat.zero_le _⟩) ?_
                    refine nb_if_eq (tgt := 146) hx hb dX8_blind_123 (by decide) (fun c_123 => ?_) (fun c_123 => ?_)
                    · refine lv_iconst (v := nI 0) hx hb dX8_blind_146 (by decide) ?_
                      refine lv_iadd hx hb dX8_blind_147 ?_
                      refine toi (nI_add (cG t j_y j_x s_ i) 0) ?_
                      refine lv_istore (lv' := [(6, .int (nI (cG t j_y j_x s_ i + 0))), (0, .ref (b 0)), (1, .int (nI j_x)), (2, .int (nI j_y)), (3, .int (nI (cG t j_x j_y 0 240))), (4, .int (nI s_)), (5, .int (nI mo)), (7, .int (nI i))]) hx hb dX8_blind_148 hl (by decide) rfl (fun ls hl => ?_)
                      refine lv_iinc (v := nI (i + 1)) (lv' := [(7, .int (nI (i + 1))), (6, .int (nI (cG t j_y j_x s_ i + 0))), (0, .ref (b 0)), (1, .int (nI j_x)), (2, .int (nI j_y)), (3, .int (nI (cG t j_x j_y 0 240))), (4, .int (nI s_)), (5, .int (nI mo))]) hx hb dX8_blind_150 hl (k := 7) rfl (nI_add i 1) (by decide) rfl (fun ls hl => ?_)
                      refine lv_goto (tgt := 105) hx hb dX8_blind_153 (by decide) ?_
                      exact ih_105 (i + 1) (by first | rfl | omega | (simp_all; done)) (by omega) H locs hP hD hS ls (lvcv (l := [(0, .ref (b 0)), (1, .int (nI j_x)), (2, .int (nI j_y)), (3, .int (nI (cG t j_x j_y 0 240))), (4, .int (nI s_)), (5, .int (nI mo)), (6, .int (nI (cG t j_y j_x s_ i + 0))), (7, .int (nI (i + 1)))]) (lv_sub hl [2, 3, 4, 5, 6, 7, 1, 0] rfl) (lvC (lvC (lvC (lvC (lvC (lvC (lvI (congrArg nI (show (cG t j_y j_x s_ i + 0) = (cG t j_y j_x s_ (i + 1)) from by first | rfl | (simp only [cG, sm_s]; split <;> first | omega | (simp_all; done) | (simp_all; omega)))) (lvC rfl)))))))))
                    refine lv_aload_n hx hb dX8_blind_126 rfl (lv_at hl 0 rfl) ?_
                    refine va_get (D := G) (own := RX8) (ref := "SpotRowsModel") (ci := 8) (v := .ref (b 4)) (C := RX8) (T := TX8) (N := 23) hx hb hts hinX8 hown hK.1 hP 0 rfl rfl 9 (by decide) fl31 (fun _ h9 => h9) rfl dX8_blind_127 ?_
                    refine lv_iload_n hx hb dX8_blind_130 rfl (lv_at hl 2 rfl) ?_
                    refine lv_iload hx hb dX8_blind_131 (lv_at hl 7 rfl) ?_
                    refine cro_i (va_runS (As := [.int (nI j_y), .int (nI i)]) (rest := [.ref (b 4), .int (nI (cG t j_y j_x s_ i))]) ⟨hx, hb, hml, hown, hts⟩ (c_X8_at l G cI cJ (x := j_y) (d := i) ) (va_cwS 2 hts gX8_blind_X8_at rfl rfl rfl (by decide +kernel) ⟨Nat.le_of_ble_eq_true rfl, Nat.le_of_ble_eq_true rfl⟩) (preS_ro (wc := []) hK hP [] rfl) rfl rfl hl.1 rfl (lv_room (Nat.le_of_ble_eq_true rfl)) dX8_blind_133 ⟨Nat.zero_le _, Nat.zero_le _⟩) ?_
                    refine ld_I hx hb hK hP 1 (k := j_y * 240 + i) rfl (by omega) (by decide) dX8_blind_136 ?_
                    refine toi (show gr (j_y * 240 + i) = nI (grp t (j_y * 240 + i)) from ((hG.1 (j_y * 240 + i) (by omega)).trans (og_v c_123.2))) ?_
                    refine lv_iload hx hb dX8_blind_137 (lv_at hl 4 rfl) ?_
                    refine nv_icmp_le (tgt := 146) hx hb dX8_blind_139 (by decide) (by omega) (by omega) (fun c_139 => ?_) (fun c_139 => ?_)
                    · refine lv_iconst (v := nI 0) hx hb dX8_blind_146 (by decide) ?_
                      refine lv_iadd hx hb dX8_blind_147 ?_
                      refine toi (nI_add (cG t j_y j_x s_ i) 0) ?_
                      refine lv_istore (lv' := [(6, .int (nI (cG t j_y j_x s_ i + 0))), (0, .ref (b 0)), (1, .int (nI j_x)), (2, .int (nI j_y)), (3, .int (nI (cG t j_x j_y 0 240))), (4, .int (nI s_)), (5, .int (nI mo)), (7, .int (nI i))]) hx hb dX8_blind_148 hl (by decide) rfl (fun ls hl => ?_)
                      refine lv_iinc (v := nI (i + 1)) (lv' := [(7, .int (nI (i + 1))), (6, .int (nI (cG t j_y j_x s_ i + 0))), (0, .ref (b 0)), (1, .int (nI j_x)), (2, .int (nI j_y)), (3, .int (nI (cG t j_x j_y 0 240))), (4, .int (nI s_)), (5, .int (nI mo))]) hx hb dX8_blind_150 hl (k := 7) rfl (nI_add i 1) (by decide) rfl (fun ls hl => ?_)
                      refine lv_goto (tgt := 105) hx hb dX8_blind_153 (by decide) ?_
                      exact ih_105 (i + 1) (by first | rfl | omega | (simp_all; done)) (by omega) H locs hP hD hS ls (lvcv (l := [(0, .ref (b 0)), (1, .int (nI j_x)), (2, .int (nI j_y)), (3, .int (nI (cG t j_x j_y 0 240))), (4, .int (nI s_)), (5, .int (nI mo)), (6, .int (nI (cG t j_y j_x s_ i + 0))), (7, .int (nI (i + 1)))]) (lv_sub hl [2, 3, 4, 5, 6, 7, 1, 0] rfl) (lvC (lvC (lvC (lvC (lvC (lvC (lvI (congrArg nI (show (cG t j_y j_x s_ i + 0) = (cG t j_y j_x s_ (i + 1)) from by first | rfl | (simp only [cG, sm_s]; split <;> first | omega | (simp_all; done) | (simp_all; omega)))) (lvC rfl)))))))))
                    refine lv_iconst (v := nI 1) hx hb dX8_blind_142 (by decide) ?_
                    refine lv_goto (tgt := 147) hx hb dX8_blind_143 (by decide) ?_
                    refine lv_iadd hx hb dX8_blind_147 ?_
                    refine toi (nI_add (cG t j_y j_x s_ i) 1) ?_
                    refine lv_istore (lv' := [(6, .int (nI (cG t j_y j_x s_ i + 1))), (0, .ref (b 0)), (1, .int (nI j_x)), (2, .int (nI j_y)), (3, .int (nI (cG t j_x j_y 0 240))), (4, .int (nI s_)), (5, .int (nI mo)), (7, .int (nI i))]) hx hb dX8_blind_148 hl (by decide) rfl (fun ls hl => ?_)
                    refine lv_iinc (v := nI (i + 1)) (lv' := [(7, .int (nI (i + 1))), (6, .int (nI (cG t j_y j_x s_ i + 1))), (0, .ref (b 0)), (1, .int (nI j_x)), (2, .int (nI j_y)), (3, .int (nI (cG t j_x j_y 0 240))), (4, .int (nI s_)), (5, .int (nI mo))]) hx hb dX8_blind_150 hl (k := 7) rfl (nI_add i 1) (by decide) rfl (fun ls hl => ?_)
                    refine lv_goto (tgt := 105) hx hb dX8_blind_153 (by decide) ?_
                    exact ih_105 (i + 1) (by first | rfl | omega | (simp_all; done)) (by omega) H locs hP hD hS ls (lvcv (l := [(0, .ref (b 0)), (1, .int (nI j_x)), (2, .int (nI j_y)), (3, .int (nI (cG t j_x j_y 0 240))), (4, .int (nI s_)), (5, .int (nI mo)), (6, .int (nI (cG t j_y j_x s_ i + 1))), (7, .int (nI (i + 1)))]) (lv_sub hl [2, 3, 4, 5, 6, 7, 1, 0] rfl) (lvC (lvC (lvC (lvC (lvC (lvC (lvI (congrArg nI (show (cG t j_y j_x s_ i + 1) = (cG t j_y j_x s_ (i + 1)) from by first | rfl | (simp only [cG, sm_s]; split <;> first | omega | (simp_all; done) | (simp_all; omega)))) (lvC rfl)))))))))
                exact lp_105 (240 - 0 + 1) 0 (by first | rfl | omega | (simp_all; done)) (by omega) _ _ hP hD hS ls (lvcv (l := [(0, .ref (b 0)), (1, .int (nI j_x)), (2, .int (nI j_y)), (3, .int (nI (cG t j_x j_y 0 240))), (4, .int (nI s_)), (5, .int (nI mo)), (6, .int (nI 0)), (7, .int (nI 0))]) (lv_sub hl [2, 3, 4, 5, 6, 7, 1, 0] rfl) (lvC (lvC (lvC (lvC (lvC (lvC (lvI (congrArg nI (show 0 = (cG t j_y j_x s_ 0) from by rfl)) (lvC rfl)))))))))
            exact lp_94 (2 * (20 - 0) + 1 + 1) 0 1 (by omega) (by omega) (by exact ⟨fun _ => rfl, fun h => absurd h (by decide)⟩) (by omega) _ _ hP hD hS ls (lvcv (l := [(0, .ref (b 0)), (1, .int (nI j_x)), (2, .int (nI j_y)), (3, .int (nI (cG t j_x j_y 0 k))), (4, .int (nI 0)), (5, .int (nI 1))]) (lv_sub hl [2, 3, 4, 5, 1, 0] rfl) (lvC (lvC (lvC (lvI (congrArg nI (show (cG t j_x j_y 0 k) = (cG t j_x j_y 0 240) from by rw [show k = 240 from by omega])) (lvC (lvC rfl)))))))
          refine lv_iload_n hx hb dX8_blind_49 rfl (lv_at hl 3 rfl) ?_
          refine lv_aload_n hx hb dX8_blind_50 rfl (lv_at hl 0 rfl) ?_
          refine lv_iload_n hx hb dX8_blind_51 rfl (lv_at hl 1 rfl) ?_
          refine lv_iload_n hx hb dX8_blind_52 rfl (lv_at hl 2 rfl) ?_
          refine lv_iload hx hb dX8_blind_53 (lv_at hl 4 rfl) ?_
          refine cro_i (va_runV (As := [.int (nI j_x), .int (nI j_y), .int (nI k)]) (rest := [.int (nI (cG t j_x j_y 0 k))]) ⟨hx, hb, hml, hown, hts⟩ (c_X8_areBoth l G cI cJ (b := b) (st := nI 0) (tp := tp) (bt := bt) (ey := ey) (le := le) (en := en) (wo := 0) (t := t) (u := t) (gr := gr) (sp := sp) (x := j_x) (y := j_y) (d := k) (tb := by first | assumption | omega) (hey := by first | assumption | omega) (hG := by first | assumption | omega) (hu := UW_0 t) (hwo := by omega) (h_x := by first | assumption | omega) (h_y := by first | assumption | omega) (h_d := by first | assumption | omega)) (cwV 3 hts gX8_blind_X8_areBoth rfl rfl rfl (by decide +kernel) ⟨Nat.le_of_ble_eq_true rfl, Nat.le_of_ble_eq_true rfl⟩) (preV_ro (wc := [oM b (nI 0) tp bt (nI ey) (nI le) en (oI 0), aI cI (b 4) 1920 gr]) hK hP [0, 1] rfl 8 0 rfl rfl rfl) rfl rfl hl.1 rfl (lv_room (Nat.le_of_ble_eq_true rfl)) dX8_blind_55 ⟨Nat.zero_le _, Nat.zero_le _⟩) ?_
          refine nb_if_eq (tgt := 79) hx hb dX8_blind_58 (by decide) (fun c_58 => ?_) (fun c_58 => ?_)
          · refine lv_iconst (v := nI 0) hx hb dX8_blind_79 (by decide) ?_
            refine lv_iadd hx hb dX8_blind_80 ?_
            refine toi (nI_add (cG t j_x j_y 0 k) 0) ?_
            refine lv_istore_n (lv' := [(3, .int (nI (cG t j_x j_y 0 k + 0))), (0, .ref (b 0)), (1, .int (nI j_x)), (2, .int (nI j_y)), (4, .int (nI k))]) hx hb dX8_blind_81 rfl hl (by decide) rfl (fun ls hl => ?_)
            refine lv_iinc (v := nI (k + 1)) (lv' := [(4, .int (nI (k + 1))), (3, .int (nI (cG t j_x j_y 0 k + 0))), (0, .ref (b 0)), (1, .int (nI j_x)), (2, .int (nI j_y))]) hx hb dX8_blind_82 hl (k := 4) rfl (nI_add k 1) (by decide) rfl (fun ls hl => ?_)
            refine lv_goto (tgt := 41) hx hb dX8_blind_85 (by decide) ?_
            exact ih_41 (k + 1) (by first | rfl | omega | (simp_all; done)) (by omega) H locs hP hD hS ls (lvcv (l := [(0, .ref (b 0)), (1, .int (nI j_x)), (2, .int (nI j_y)), (3, .int (nI (cG t j_x j_y 0 k + 0))), (4, .int (nI (k + 1)))]) (lv_sub hl [2, 3, 4, 1, 0] rfl) (lvC (lvC (lvC (lvI (congrArg nI (show (cG t j_x j_y 0 k + 0) = (cG t j_x j_y 0 (k + 1)) from by first | rfl | (simp only [cG, sm_s]; split <;> first | omega | (simp_all; done) | (simp_all; omega)))) (lvC rfl))))))
          refine lv_aload_n hx hb dX8_blind_61 rfl (lv_at hl 0 rfl) ?_
          refine va_get (D := G) (own := RX8) (ref := "SpotRowsModel") (ci := 8) (v := .ref (b 4)) (C := RX8) (T := TX8) (N := 23) hx hb hts hinX8 hown hK.1 hP 0 rfl rfl 9 (by decide) fl31 (fun _ h9 => h9) rfl dX8_blind_62 ?_
          refine lv_iload_n hx hb dX8_blind_65 rfl (lv_at hl 1 rfl) ?_
          refine lv_iload hx hb dX8_blind_66 (lv_at hl 4 rfl) ?_
          refine cro_i (va_runS (As := [.int (nI j_x), .int (nI k)]) (rest := [.ref (b 4), .int (nI (cG t j_x j_y 0 k))]) ⟨hx, hb, hml, hown, hts⟩ (c_X8_at l G cI cJ (x := j_x) (d := k) ) (va_cwS 2 hts gX8_blind_X8_at rfl rfl rfl (by decide +kernel) ⟨Nat.le_of_ble_eq_true rfl, Nat.le_of_ble_eq_true rfl⟩) (preS_ro (wc := []) hK hP [] rfl) rfl rfl hl.1 rfl (lv_room (Nat.le_of_ble_eq_true rfl)) dX8_blind_68 ⟨Nat.zero_le _, Nat.zero_le _⟩) ?_
          refine ld_I hx hb hK hP 1 (k := j_x * 240 + k) rfl (by omega) (by decide) dX8_blind_71 ?_
          refine toi (show gr (j_x * 240 + k) = nI (grp t (j_x * 240 + k)) from ((hG.1 (j_x * 240 + k) (by omega)).trans (og_v c_58.1))) ?_
          refine nv_if_le (tgt := 79) hx hb dX8_blind_72 (by decide) (by omega) (fun c_72 => ?_) (fun c_72 => ?_)
          · refine lv_iconst (v := nI 0) hx hb dX8_blind_79 (by decide) ?_
            refine lv_iadd hx hb dX8_blind_80 ?_
            refine toi (nI_add (cG t j_x j_y 0 k) 0) ?_
            refine lv_istore_n (lv' := [(3, .int (nI (cG t j_x j_y 0 k + 0))), (0, .ref (b 0)), (1, .int (nI j_x)), (2, .int (nI j_y)), (4, .int (nI k))]) hx hb dX8_blind_81 rfl hl (by decide) rfl (fun ls hl => ?_)
            refine lv_iinc (v := nI (k + 1)) (lv' := [(4, .int (nI (k + 1))), (3, .int (nI (cG t j_x j_y 0 k + 0))), (0, .ref (b 0)), (1, .int (nI j_x)), (2, .int (nI j_y))]) hx hb dX8_blind_82 hl (k := 4) rfl (nI_add k 1) (by decide) rfl (fun ls hl => ?_)
            refine lv_goto (tgt := 41) hx hb dX8_blind_85 (by decide) ?_
            exact ih_41 (k + 1) (by first | rfl | omega | (simp_all; done)) (by omega) H locs hP hD hS ls (lvcv (l := [(0, .ref (b 0)), (1, .int (nI j_x)), (2, .int (nI j_y)), (3, .int (nI (cG t j_x j_y 0 k + 0))), (4, .int (nI (k + 1)))]) (lv_sub hl [2, 3, 4, 1, 0] rfl) (lvC (lvC (lvC (lvI (congrArg nI (show (cG t j_x j_y 0 k + 0) = (cG t j_x j_y 0 (k + 1)) from by first | rfl | (simp only [cG, sm_s]; split <;> first | omega | (simp_all; done) | (simp_all; omega)))) (lvC rfl))))))
          refine lv_iconst (v := nI 1) hx hb dX8_blind_75 (by decide) ?_
          refine lv_goto (tgt := 80) hx hb dX8_blind_76 (by decide) ?_
          refine lv_iadd hx hb dX8_blind_80 ?_
          refine toi (nI_add (cG t j_x j_y 0 k) 1) ?_
          refine lv_istore_n (lv' := [(3, .int (nI (cG t j_x j_y 0 k + 1))), (0, .ref (b 0)), (1, .int (nI j_x)), (2, .int (nI j_y)), (4, .int (nI k))]) hx hb dX8_blind_81 rfl hl (by decide) rfl (fun ls hl => ?_)
          refine lv_iinc (v := nI (k + 1)) (lv' := [(4, .int (nI (k + 1))), (3, .int (nI (cG t j_x j_y 0 k + 1))), (0, .ref (b 0)), (1, .int (nI j_x)), (2, .int (nI j_y))]) hx hb dX8_blind_82 hl (k := 4) rfl (nI_add k 1) (by decide) rfl (fun ls hl => ?_)
          refine lv_goto (tgt := 41) hx hb dX8_blind_85 (by decide) ?_
          exact ih_41 (k + 1) (by first | rfl | omega | (simp_all; done)) (by omega) H locs hP hD hS ls (lvcv (l := [(0, .ref (b 0)), (1, .int (nI j_x)), (2, .int (nI j_y)), (3, .int (nI (cG t j_x j_y 0 k + 1))), (4, .int (nI (k + 1)))]) (lv_sub hl [2, 3, 4, 1, 0] rfl) (lvC (lvC (lvC (lvI (congrArg nI (show (cG t j_x j_y 0 k + 1) = (cG t j_x j_y 0 (k + 1)) from by first | rfl | (simp only [cG, sm_s]; split <;> first | omega | (simp_all; done) | (simp_all; omega)))) (lvC rfl))))))
      exact lp_41 (240 - 0 + 1) 0 (by first | rfl | omega | (simp_all; done)) (by omega) _ _ hP hD hS ls (lvcv (l := [(0, .ref (b 0)), (1, .int (nI j_x)), (2, .int (nI j_y)), (3, .int (nI 0)), (4, .int (nI 0))]) (lv_sub hl [2, 3, 4, 1, 0] rfl) (lvC (lvC (lvC (lvI (congrArg nI (show 0 = (cG t j_x j_y 0 0) from by rfl)) (lvC rfl))))))
    refine lv_aload_n hx hb dX8_blind_24 rfl (lv_at hl 0 rfl) ?_
    refine lv_bipush (v := nI 6) hx hb dX8_blind_25 (by decide) ?_
    refine crw_i (va_runV (As := [.int (nI 6)]) (rest := []) ⟨hx, hb, hml, hown, hts⟩ (c_X8_refuse l G cI cJ (b := b) (st := st) (tp := tp) (bt := bt) (ey := ey) (le := nI le) (en := en) (wo := oI 0) (w := nI 6) ) (cwV 1 hts gX8_blind_X8_refuse rfl rfl rfl (by decide +kernel) ⟨Nat.le_of_ble_eq_true rfl, Nat.le_of_ble_eq_true rfl⟩) (preV_rw (wc := [oM b st tp bt (nI ey) (nI le) en (oI 0)]) hK hP hD [0] rfl rfl 8 0 rfl rfl rfl) rfl rfl hl.1 rfl (lv_room (Nat.le_of_ble_eq_true rfl)) dX8_blind_27 ⟨Nat.zero_le _, Nat.zero_le _⟩) hP hD hS [0] rfl [b 0] (fun u => rfl) rfl (fun r_27 u_ H locs hw_27 hP hD hS => ?_)
    have hP : va_P G vwCl [oM b (nI 6) tp bt (nI ey) (nI le) en (oI 0), aI cI (b 4) 1920 gr] H := hP
    have hD : va_D A [oM b (nI 6) tp bt (nI ey) (nI le) en (oI 0), aI cI (b 4) 1920 gr] := hD
    refine toi hw_27 ?_
    have hP : va_P G vwCl [oM b (nI (qBlind t ey (nI j_x) (nI j_y))) tp bt (nI ey) (nI le) en (oI 0), aI cI (b 4) 1920 gr] H := by
      have ew : ([oM b (nI 6) tp bt (nI ey) (nI le) en (oI 0), aI cI (b 4) 1920 gr] : va_W) = [oM b (nI (qBlind t ey (nI j_x) (nI j_y))) tp bt (nI ey) (nI le) en (oI 0), aI cI (b 4) 1920 gr] := (wvC (congrArg (fun zz => oM b zz tp bt (nI ey) (nI le) en (oI 0)) (show nI 6 = nI (qBlind t ey (nI j_x) (nI j_y)) from (congrArg nI (show 6 = (qBlind t ey (nI j_x) (nI j_y)) from by simp [rBlind, qBlind, pr, c_6, cif_T, e_x, e_y, c_21])))) (wvC rfl rfl))
      rw [← ew]; exact hP
    exact W.iret (v := (-1)) hx hb hr (fun zt ht zw => ⟨⟨_, (), rfl, (m1_o.trans (congrArg oI (show 0 = (rBlind t ey (nI j_x) (nI j_y)) from by simp [rBlind, qBlind, pr, c_6, cif_T, e_x, e_y, c_21]))), by show va_P _ _ _ zt.heap; rw [ht]; exact hP⟩, by rw [hAe]; exact hS.F ht⟩) hS.2.2 dX8_blind_30
  refine lv_aload_n hx hb dX8_blind_9 rfl (lv_at hl 0 rfl) ?_
  refine lv_iconst (v := nI 1) hx hb dX8_blind_10 (by decide) ?_
  refine crw_i (va_runV (As := [.int (nI 1)]) (rest := []) ⟨hx, hb, hml, hown, hts⟩ (c_X8_refuse l G cI cJ (b := b) (st := st) (tp := tp) (bt := bt) (ey := ey) (le := nI le) (en := en) (wo := oI 0) (w := nI 1) ) (cwV 1 hts gX8_blind_X8_refuse rfl rfl rfl (by decide +kernel) ⟨Nat.le_of_ble_eq_true rfl, Nat.le_of_ble_eq_true rfl⟩) (preV_rw (wc := [oM b st tp bt (nI ey) (nI le) en (oI 0)]) hK hP hD [0] rfl rfl 8 0 rfl rfl rfl) rfl rfl hl.1 rfl (lv_room (Nat.le_of_ble_eq_true rfl)) dX8_blind_11 ⟨Nat.zero_le _, Nat.zero_le _⟩) hP hD hS [0] rfl [b 0] (fun u => rfl) rfl (fun r_11 u_ H locs hw_11 hP hD hS => ?_)
  have hP : va_P G vwCl [oM b (nI 1) tp bt (nI ey) (nI le) en (oI 0), aI cI (b 4) 1920 gr] H := hP
  have hD : va_D A [oM b (nI 1) tp bt (nI ey) (nI le) en (oI 0), aI cI (b 4) 1920 gr] := hD
  refine toi hw_11 ?_
  have hP : va_P G vwCl [oM b (nI (qBlind t ey x y)) tp bt (nI ey) (nI le) en (oI 0), aI cI (b 4) 1920 gr] H := by
    have ew : ([oM b (nI 1) tp bt (nI ey) (nI le) en (oI 0), aI cI (b 4) 1920 gr] : va_W) = [oM b (nI (qBlind t ey x y)) tp bt (nI ey) (nI le) en (oI 0), aI cI (b 4) 1920 gr] := (wvC (congrArg (fun zz => oM b zz tp bt (nI ey) (nI le) en (oI 0)) (show nI 1 = nI (qBlind t ey x y) from (congrArg nI (show 1 = (qBlind t ey x y) from by first | (simp [rBlind, qBlind, pr, c_6, cif_F]; done))))) (wvC rfl rfl))
    rw [← ew]; exact hP
  exact W.iret (v := (-1)) hx hb hr (fun zt ht zw => ⟨⟨_, (), rfl, (m1_o.trans (congrArg oI (show 0 = (rBlind t ey x y) from by first | (simp [rBlind, qBlind, pr, c_6, cif_F]; done)))), by show va_P _ _ _ zt.heap; rw [ht]; exact hP⟩, by rw [hAe]; exact hS.F ht⟩) hS.2.2 dX8_blind_14

set_option maxHeartbeats 400000 in
set_option maxRecDepth 100000 in
theorem c_X8_tellValue (l : Launch) (G : va_G) (cI cJ : ClassId) (b : Nat → Nat) (st : Int32) (tp : Int64) (bt : Int64) (ey : Nat) (le : Int32) (en : Int32) (wo : Int32) (k : Nat) (h1 : k ≤ 2 ^ 31) : Met l yX8_tellValue wsX8_tellValue ({ frames := 1, cells := 0, slots := 0, locals := 21 }) (rwP G cI cJ [.ref (b 0), .int (oI k)] [oM b st tp bt (nI ey) le en wo]) (rwQi G [oM b st tp bt (nI ey) le en wo] (fun (r : Int32) (_ : Unit) => r = oI k) (fun (_ : Unit) => [oM b (nI (if k = 0 then 5 else 0)) tp bt (nI ey) le en wo])) 0 0 (ads [oM b st tp bt (nI ey) le en wo]) := by
  refine Met.ofW (cc := cX8_tellValue) (maxL := 2) (ret := (some .int)) (by decide) rfl ?_
  intro pg ev s mt args below meth cd s₁ B hml hv
  obtain ⟨rfl, hP, hD0, hK⟩ := hv
  have hx := B.exec
  have hb := B.bytes
  have hr := B.returns
  have hts := atoms_spec (ws := wsX8_tellValue) B.pre
  have hown : s.vm.findClass RX8 = some mt.cls := findClass_of_methodNamed B.named
  have hlocks := B.notSynchronized
  have hD := ads_self hD0
  generalize hAe : ads [oM b st tp bt (nI ey) le en wo] = A at hD ⊢
  have hS : va_S A s.heap s.heap [] := va_S.rf
  have hP : va_P G vwCl [oM b st tp bt (nI ey) le en wo] s.heap := hP
  have hinX8 := (show ∀ w ∈ u_ws RX8 TX8 23, w ∈ wsX8_tellValue by decide +kernel)
  have fl73 := hts (.fieldLink RX8 73 "SpotRowsModel" "status" "I") (by decide +kernel)
  have hl := lv_entry ([.ref (b 0), .int (oI k)]) (n := 2) (Nat.le_of_ble_eq_true rfl)
  rw [lg_entry_eq]
  generalize (lg_sl ([.ref (b 0), .int (oI k)]) ++ List.replicate (2 - (lg_sl ([.ref (b 0), .int (oI k)])).length) Slot.unset).toArray = ls at hl ⊢
  have hl : lv_has ls 2 [(0, .ref (b 0)), (1, .int (oI k))] := hl
  refine lv_iload_n hx hb dX8_tellValue_0 rfl (lv_at hl 1 rfl) ?_
  refine lv_iconst (v := (-1)) hx hb dX8_tellValue_1 (by decide) ?_
  refine no_icmp_ne (tgt := 11) hx hb dX8_tellValue_2 (by decide) (by omega) (fun c_2 => ?_) (fun c_2 => ?_)
  · refine lv_aload_n hx hb dX8_tellValue_11 rfl (lv_at hl 0 rfl) ?_
    refine lv_iconst (v := nI 0) hx hb dX8_tellValue_12 (by decide) ?_
    refine va_put (D := G) (own := RX8) (ref := "SpotRowsModel") (ci := 8) (v := .int (nI 0)) (ty := .int) (C := RX8) (T := TX8) (N := 23) hx hb hts hinX8 tyX8 tyX8_ok nmX8 hown hK.1 hP hD hS 0 rfl rfl 0 (by decide) fl73 (fun _ h9 => h9) rfl (by decide +kernel) rfl rfl (Nat.le_of_ble_eq_true rfl) dX8_tellValue_13 (fun H locs hP hD hS => ?_)
    have hP : va_P G vwCl [oM b (nI 0) tp bt (nI ey) le en wo] H := hP
    have hD : va_D A [oM b (nI 0) tp bt (nI ey) le en wo] := hD
    refine lv_iload_n hx hb dX8_tellValue_16 rfl (lv_at hl 1 rfl) ?_
    refine toi (oI_pos (by first | assumption | omega)) ?_
    have hP : va_P G vwCl [oM b (nI (if k = 0 then 5 else 0)) tp bt (nI ey) le en wo] H := by
      have ew : ([oM b (nI 0) tp bt (nI ey) le en wo] : va_W) = [oM b (nI (if k = 0 then 5 else 0)) tp bt (nI ey) le en wo] := (wvC (congrArg (fun zz => oM b zz tp bt (nI ey) le en wo) (show nI 0 = nI (if k = 0 then 5 else 0) from (congrArg nI (show 0 = (if k = 0 then 5 else 0) from by first | omega | (simp [c_2]; done) | (rw [if_neg c_2]; done))))) rfl)
      rw [← ew]; exact hP
    exact W.iret (v := nI (k - 1)) hx hb hr (fun zt ht zw => ⟨⟨_, (), rfl, ((nI_o (k - 1)).trans (congrArg oI (show (k - 1) + 1 = k from by first | omega | (simp [c_2]; done) | (rw [if_neg c_2]; done)))), by show va_P _ _ _ zt.heap; rw [ht]; exact hP⟩, by rw [hAe]; exact hS.F ht⟩) hS.2.2 dX8_tellValue_17
  refine lv_aload_n hx hb dX8_tellValue_5 rfl (lv_at hl 0 rfl) ?_
  refine lv_iconst (v := nI 5) hx hb dX8_tellValue_6 (by decide) ?_
  refine crw_i (va_runV (As := [.int (nI 5)]) (rest := []) ⟨hx, hb, hml, hown, hts⟩ (c_X8_refuse l G cI cJ (b := b) (st := st) (tp := tp) (bt := bt) (ey := ey) (le := le) (en := en) (wo := wo) (w := nI 5) ) (cwV 1 hts gX8_tellValue_X8_refuse rfl rfl rfl (by decide +kernel) ⟨Nat.le_of_ble_eq_true rfl, Nat.le_of_ble_eq_true rfl⟩) (preV_rw (wc := [oM b st tp bt (nI ey) le en wo]) hK hP hD [0] rfl rfl 8 0 rfl rfl rfl) rfl rfl hl.1 rfl (lv_room (Nat.le_of_ble_eq_true rfl)) dX8_tellValue_7 ⟨Nat.zero_le _, Nat.zero_le _⟩) hP hD hS [0] rfl [b 0] (fun u => rfl) rfl (fun r_7 u_ H locs hw_7 hP hD hS => ?_)
  have hP : va_P G vwCl [oM b (nI 5) tp bt (nI ey) le en wo] H := hP
  have hD : va_D A [oM b (nI 5) tp bt (nI ey) le en wo] := hD
  refine toi hw_7 ?_
  have hP : va_P G vwCl [oM b (nI (if k = 0 then 5 else 0)) tp bt (nI ey) le en wo] H := by
    have ew : ([oM b (nI 5) tp bt (nI ey) le en wo] : va_W) = [oM b (nI (if k = 0 then 5 else 0)) tp bt (nI ey) le en wo] := (wvC (congrArg (fun zz => oM b zz tp bt (nI ey) le en wo) (show nI 5 = nI (if k = 0 then 5 else 0) from (congrArg nI (show 5 = (if k = 0 then 5 else 0) from by first | omega | (simp [c_2]; done) | (rw [if_neg c_2]; done))))) rfl)
    rw [← ew]; exact hP
  exact W.iret (v := (-1)) hx hb hr (fun zt ht zw => ⟨⟨_, (), rfl, (m1_o.trans (congrArg oI (show 0 = k from by first | omega | (simp [c_2]; done) | (rw [if_neg c_2]; done)))), by show va_P _ _ _ zt.heap; rw [ht]; exact hP⟩, by rw [hAe]; exact hS.F ht⟩) hS.2.2 dX8_tellValue_10

set_option maxHeartbeats 400000 in
set_option maxRecDepth 100000 in
theorem c_X8_isWide (l : Launch) (G : va_G) (cI cJ : ClassId) (x : Int32)  : Met l yX8_isWide wsX8_isWide ({ frames := 0, cells := 0, slots := 0, locals := 0 }) (roP G cI cJ [.int x] []) (vp_Si (fun r => r = bi (wid x))) 0 0 (fun _ => False) := by
  refine Met.ofW (cc := cX8_isWide) (maxL := 1) (ret := (some .boolean)) (by decide) rfl ?_
  intro pg ev s mt args below meth cd s₁ B hml hv
  obtain ⟨rfl, hP, hK⟩ := hv
  have hx := B.exec
  have hb := B.bytes
  have hr := B.returns
  have hts := atoms_spec (ws := wsX8_isWide) B.pre
  have hown : s.vm.findClass RX8 = some mt.cls := findClass_of_methodNamed B.named
  have hlocks := B.notSynchronized
  have hP : va_P G vwCl [] s.heap := hP
  have hl := lv_entry ([.int x]) (n := 1) (Nat.le_of_ble_eq_true rfl)
  rw [lg_entry_eq]
  generalize (lg_sl ([.int x]) ++ List.replicate (1 - (lg_sl ([.int x])).length) Slot.unset).toArray = ls at hl ⊢
  have hl : lv_has ls 1 [(0, .int x)] := hl
  refine lv_iload_n hx hb dX8_isWide_0 rfl (lv_at hl 0 rfl) ?_
  refine lv_iconst (v := nI 1) hx hb dX8_isWide_1 (by decide) ?_
  refine lv_icmp_eq (tgt := 21) hx hb dX8_isWide_2 (by decide) (fun c_2 => ?_) (fun c_2 => ?_)
  · refine lv_iconst (v := nI 1) hx hb dX8_isWide_21 (by decide) ?_
    refine lv_goto (tgt := 26) hx hb dX8_isWide_22 (by decide) ?_
    exact W.zret (v := nI 1) hx hb hr rfl (fun zt ht zw => ⟨_, rfl, (show nI 1 = bi (wid x) from (bi_t (by first | (subst c_2; exact ⟨(rg2_nI (by decide)).mpr (by decide), by rw [nn_nI (by decide)]⟩) | (subst c_7; exact ⟨(rg2_nI (by decide)).mpr (by decide), by rw [nn_nI (by decide)]⟩) | (subst c_12; exact ⟨(rg2_nI (by decide)).mpr (by decide), by rw [nn_nI (by decide)]⟩) | (subst c_18; exact ⟨(rg2_nI (by decide)).mpr (by decide), by rw [nn_nI (by decide)]⟩) | exact wid_no c_2 c_7 c_12 c_18)).symm), ht⟩) (fun q hq => absurd hq List.not_mem_nil) dX8_isWide_26
  refine lv_iload_n hx hb dX8_isWide_5 rfl (lv_at hl 0 rfl) ?_
  refine lv_iconst (v := nI 3) hx hb dX8_isWide_6 (by decide) ?_
  refine lv_icmp_eq (tgt := 21) hx hb dX8_isWide_7 (by decide) (fun c_7 => ?_) (fun c_7 => ?_)
  · refine lv_iconst (v := nI 1) hx hb dX8_isWide_21 (by decide) ?_
    refine lv_goto (tgt := 26) hx hb dX8_isWide_22 (by decide) ?_
    exact W.zret (v := nI 1) hx hb hr rfl (fun zt ht zw => ⟨_, rfl, (show nI 1 = bi (wid x) from (bi_t (by first | (subst c_2; exact ⟨(rg2_nI (by decide)).mpr (by decide), by rw [nn_nI (by decide)]⟩) | (subst c_7; exact ⟨(rg2_nI (by decide)).mpr (by decide), by rw [nn_nI (by decide)]⟩) | (subst c_12; exact ⟨(rg2_nI (by decide)).mpr (by decide), by rw [nn_nI (by decide)]⟩) | (subst c_18; exact ⟨(rg2_nI (by decide)).mpr (by decide), by rw [nn_nI (by decide)]⟩) | exact wid_no c_2 c_7 c_12 c_18)).symm), ht⟩) (fun q hq => absurd hq List.not_mem_nil) dX8_isWide_26
  refine lv_iload_n hx hb dX8_isWide_10 rfl (lv_at hl 0 rfl) ?_
  refine lv_iconst (v := nI 5) hx hb dX8_isWide_11 (by decide) ?_
  refine lv_icmp_eq (tgt := 21) hx hb dX8_isWide_12 (by decide) (fun c_12 => ?_) (fun c_12 => ?_)
  · refine lv_iconst (v := nI 1) hx hb dX8_isWide_21 (by decide) ?_
    refine lv_goto (tgt := 26) hx hb dX8_isWide_22 (by decide) ?_
    exact W.zret (v := nI 1) hx hb hr rfl (fun zt ht zw => ⟨_, rfl, (show nI 1 = bi (wid x) from (bi_t (by first | (subst c_2; exact ⟨(rg2_nI (by decide)).mpr (by decide), by rw [nn_nI (by decide)]⟩) | (subst c_7; exact ⟨(rg2_nI (by decide)).mpr (by decide), by rw [nn_nI (by decide)]⟩) | (subst c_12; exact ⟨(rg2_nI (by decide)).mpr (by decide), by rw [nn_nI (by decide)]⟩) | (subst c_18; exact ⟨(rg2_nI (by decide)).mpr (by decide), by rw [nn_nI (by decide)]⟩) | exact wid_no c_2 c_7 c_12 c_18)).symm), ht⟩) (fun q hq => absurd hq List.not_mem_nil) dX8_isWide_26
  refine lv_iload_n hx hb dX8_isWide_15 rfl (lv_at hl 0 rfl) ?_
  refine lv_bipush (v := nI 7) hx hb dX8_isWide_16 (by decide) ?_
  refine lv_icmp_ne (tgt := 25) hx hb dX8_isWide_18 (by decide) (fun c_18 => ?_) (fun c_18 => ?_)
  · refine lv_iconst (v := nI 0) hx hb dX8_isWide_25 (by decide) ?_
    exact W.zret (v := nI 0) hx hb hr rfl (fun zt ht zw => ⟨_, rfl, (show nI 0 = bi (wid x) from (bi_f (by first | (subst c_2; exact ⟨(rg2_nI (by decide)).mpr (by decide), by rw [nn_nI (by decide)]⟩) | (subst c_7; exact ⟨(rg2_nI (by decide)).mpr (by decide), by rw [nn_nI (by decide)]⟩) | (subst c_12; exact ⟨(rg2_nI (by decide)).mpr (by decide), by rw [nn_nI (by decide)]⟩) | (subst c_18; exact ⟨(rg2_nI (by decide)).mpr (by decide), by rw [nn_nI (by decide)]⟩) | exact wid_no c_2 c_7 c_12 c_18)).symm), ht⟩) (fun q hq => absurd hq List.not_mem_nil) dX8_isWide_26
  refine lv_iconst (v := nI 1) hx hb dX8_isWide_21 (by decide) ?_
  refine lv_goto (tgt := 26) hx hb dX8_isWide_22 (by decide) ?_
  exact W.zret (v := nI 1) hx hb hr rfl (fun zt ht zw => ⟨_, rfl, (show nI 1 = bi (wid x) from (bi_t (by first | (subst c_2; exact ⟨(rg2_nI (by decide)).mpr (by decide), by rw [nn_nI (by decide)]⟩) | (subst c_7; exact ⟨(rg2_nI (by decide)).mpr (by decide), by rw [nn_nI (by decide)]⟩) | (subst c_12; exact ⟨(rg2_nI (by decide)).mpr (by decide), by rw [nn_nI (by decide)]⟩) | (subst c_18; exact ⟨(rg2_nI (by decide)).mpr (by decide), by rw [nn_nI (by decide)]⟩) | exact wid_no c_2 c_7 c_12 c_18)).symm), ht⟩) (fun q hq => absurd hq List.not_mem_nil) dX8_isWide_26

set_option maxHeartbeats 400000 in
set_option maxRecDepth 100000 in
theorem c_X8_valueOf (l : Launch) (G : va_G) (cI cJ : ClassId) (b : Nat → Nat) (st : Int32) (tp : Int64) (bt : Int64) (ey : Nat) (le : Nat) (en : Int32) (wo : Nat) (t : Nat → Nat) (u : Nat → Nat) (gr : Nat → Int32) (sp : Nat → Int32) (we : Nat → Nat) (d : Nat) (tb : TB t) (hey : ey ≤ 8) (hG : GM t ey gr sp) (hu : UW t u wo) (hwo : wo ≤ 8) (tbu : TB u) (wb : WB we) (h_d : d < 240) : Met l yX8_valueOf wsX8_valueOf ({ frames := 2, cells := 0, slots := 0, locals := 43 }) (roP G cI cJ [.ref (b 0), .int (nI d)] [oM b st tp bt (nI ey) (nI le) en (oI wo), aI cI (b 4) 1920 gr, aI cI (b 5) 1920 sp, aI cI (b 14) 8 (oF we)]) (vp_Si (fun r => r = oI (vD u we ey d))) 0 0 (fun _ => False) := by
  refine Met.ofW (cc := cX8_valueOf) (maxL := 6) (ret := (some .int)) (by decide) rfl ?_
  intro pg ev s mt args below meth cd s₁ B hml hv
  obtain ⟨rfl, hP, hK⟩ := hv
  have hx := B.exec
  have hb := B.bytes
  have hr := B.returns
  have hts := atoms_spec (ws := wsX8_valueOf) B.pre
  have hown : s.vm.findClass RX8 = some mt.cls := findClass_of_methodNamed B.named
  have hlocks := B.notSynchronized
  have hP : va_P G vwCl [oM b st tp bt (nI ey) (nI le) en (oI wo), aI cI (b 4) 1920 gr, aI cI (b 5) 1920 sp, aI cI (b 14) 8 (oF we)] s.heap := hP
  have hinX8 := (show ∀ w ∈ u_ws RX8 TX8 23, w ∈ wsX8_valueOf by decide +kernel)
  have fl96 := hts (.fieldLink RX8 96 "SpotRowsModel" "eyes" "I") (by decide +kernel)
  have fl64 := hts (.fieldLink RX8 64 "SpotRowsModel" "weights" "[I") (by decide +kernel)
  have hl := lv_entry ([.ref (b 0), .int (nI d)]) (n := 6) (Nat.le_of_ble_eq_true rfl)
  rw [lg_entry_eq]
  generalize (lg_sl ([.ref (b 0), .int (nI d)]) ++ List.replicate (6 - (lg_sl ([.ref (b 0), .int (nI d)])).length) Slot.unset).toArray = ls at hl ⊢
  have hl : lv_has ls 6 [(0, .ref (b 0)), (1, .int (nI d))] := hl
  refine lv_lconst (v := lN 0) hx hb dX8_valueOf_0 (by decide) ?_
  refine lv_lstore_n (lv' := [(2, .long (lN 0)), (0, .ref (b 0)), (1, .int (nI d))]) hx hb dX8_valueOf_1 rfl hl (by decide) rfl (fun ls hl => ?_)
  refine lv_iconst (v := nI 0) hx hb dX8_valueOf_2 (by decide) ?_
  refine lv_istore (lv' := [(4, .int (nI 0)), (2, .long (lN 0)), (0, .ref (b 0)), (1, .int (nI d))]) hx hb dX8_valueOf_3 hl (by decide) rfl (fun ls hl => ?_)
  refine lv_iconst (v := nI 0) hx hb dX8_valueOf_5 (by decide) ?_
  refine lv_istore (lv' := [(5, .int (nI 0)), (4, .int (nI 0)), (2, .long (lN 0)), (0, .ref (b 0)), (1, .int (nI d))]) hx hb dX8_valueOf_6 hl (by decide) rfl (fun ls hl => ?_)
  have lp_8 : ∀ (nf : Nat) (k : Nat), (k ≤ ey) → ey - k < nf → ∀ (ls : Array Slot), lv_has ls 6 [(0, .ref (b 0)), (1, .int (nI d)), (2, .long (lN (vS u we d k))), (4, .int (nI (vC u we d k))), (5, .int (nI k))] → W pg l ev (headSpec wsX8_valueOf ({ frames := 2, cells := 0, slots := 0, locals := 43 })).room s mt ([.ref (b 0), .int (nI d)] : List Value).toArray below meth cd s.heap [] 0 0 (MQ below (vp_Si (fun r => r = oI (vD u we ey d))) ([.ref (b 0), .int (nI d)] : List Value).toArray s 0 0 (fun _ => False)) (F0 mt 8 ls []) := by
    intro nf
    induction nf with
    | zero => intro k hk hfu; exact absurd hfu (Nat.not_lt_zero _)
    | succ nf ih_8 =>
      intro k hk hfu ls hl
      have f1 := vC_le u we d k
      have f2 := vS_le tbu wb d k
      have f3 := num_le tbu (k * 240 + d)
      have f4 := wb k
      refine lv_iload hx hb dX8_valueOf_8 (lv_at hl 4 rfl) ?_
      refine lv_aload_n hx hb dX8_valueOf_10 rfl (lv_at hl 0 rfl) ?_
      refine va_get (D := G) (own := RX8) (ref := "SpotRowsModel") (ci := 8) (v := .int (nI ey)) (C := RX8) (T := TX8) (N := 23) hx hb hts hinX8 hown hK.1 hP 0 rfl rfl 6 (by decide) fl96 (fun _ h9 => h9) rfl dX8_valueOf_11 ?_
      refine nv_icmp_ge (tgt := 70) hx hb dX8_valueOf_14 (by decide) (by first | omega | exact Nat.le_trans (wb _) (by decide) | exact Nat.lt_of_le_of_lt (wb _) (by decide)) (by first | omega | exact Nat.le_trans (wb _) (by decide) | exact Nat.lt_of_le_of_lt (wb _) (by decide)) (fun c_14 => ?_) (fun c_14 => ?_)
      · have hke : k = ey := by omega
        refine lv_iload hx hb dX8_valueOf_70 (lv_at hl 3 rfl) ?_
        refine nv_if_ne (tgt := 79) hx hb dX8_valueOf_72 (by decide) (by first | omega | exact Nat.le_trans (wb _) (by decide) | exact Nat.lt_of_le_of_lt (wb _) (by decide)) (fun c_72 => ?_) (fun c_72 => ?_)
        · refine lv_lload_n hx hb dX8_valueOf_79 rfl (lv_at hl 2 rfl) ?_
          refine lv_iload hx hb dX8_valueOf_80 (lv_at hl 3 rfl) ?_
          refine lv_i2l (v := lN (vC u we d k)) hx hb dX8_valueOf_82 (nI_l (by first | omega | exact Nat.le_trans (wb _) (by decide) | exact Nat.lt_of_le_of_lt (wb _) (by decide))) ?_
          refine lv_ldiv hx hb dX8_valueOf_83 (lN_ne0 (by first | omega | exact Nat.le_trans (wb _) (by decide) | exact Nat.lt_of_le_of_lt (wb _) (by decide)) (by first | omega | exact Nat.le_trans (wb _) (by decide) | exact Nat.lt_of_le_of_lt (wb _) (by decide))) ?_
          refine tol (pk_lDiv (a := (vS u we d k)) (b := (vC u we d k)) (by first | omega | exact Nat.le_trans (wb _) (by decide) | exact Nat.lt_of_le_of_lt (wb _) (by decide)) (by first | omega | exact Nat.le_trans (wb _) (by decide) | exact Nat.lt_of_le_of_lt (wb _) (by decide)) (by first | omega | exact Nat.le_trans (wb _) (by decide) | exact Nat.lt_of_le_of_lt (wb _) (by decide))) ?_
          refine lv_l2i (v := nI (vS u we d k / vC u we d k)) hx hb dX8_valueOf_84 (lN_i (vS u we d k / vC u we d k)) ?_
          exact W.iret (v := nI (vS u we d k / vC u we d k)) hx hb hr (fun zt ht zw => ⟨_, rfl, ((nI_o (vS u we d k / vC u we d k)).trans (congrArg oI (show (vS u we d k / vC u we d k) + 1 = (vD u we ey d) from by (simp only [vD, ← hke]); split <;> first | omega | rfl))), ht⟩) (fun q hq => absurd hq List.not_mem_nil) dX8_valueOf_85
        refine lv_iconst (v := (-1)) hx hb dX8_valueOf_75 (by decide) ?_
        refine lv_goto (tgt := 85) hx hb dX8_valueOf_76 (by decide) ?_
        exact W.iret (v := (-1)) hx hb hr (fun zt ht zw => ⟨_, rfl, (m1_o.trans (congrArg oI (show 0 = (vD u we ey d) from by (simp only [vD, ← hke]); split <;> first | omega | rfl))), ht⟩) (fun q hq => absurd hq List.not_mem_nil) dX8_valueOf_85
      refine lv_aload_n hx hb dX8_valueOf_17 rfl (lv_at hl 0 rfl) ?_
      refine lv_iload hx hb dX8_valueOf_18 (lv_at hl 4 rfl) ?_
      refine lv_iload_n hx hb dX8_valueOf_20 rfl (lv_at hl 1 rfl) ?_
      refine cro_i (va_runV (As := [.int (nI k), .int (nI d)]) (rest := []) ⟨hx, hb, hml, hown, hts⟩ (c_X8_tells l G cI cJ (b := b) (st := st) (tp := tp) (bt := bt) (ey := ey) (le := le) (en := en) (wo := wo) (t := t) (u := u) (gr := gr) (sp := sp) (x := k) (d := d) (tb := by first | assumption | omega) (hey := by first | assumption | omega) (hG := by first | assumption | omega) (hu := by first | assumption | omega) (hwo := by first | assumption | omega) (h_x := by first | assumption | omega) (h_d := by first | assumption | omega)) (cwV 2 hts gX8_valueOf_X8_tells rfl rfl rfl (by decide +kernel) ⟨Nat.le_of_ble_eq_true rfl, Nat.le_of_ble_eq_true rfl⟩) (preV_ro (wc := [oM b st tp bt (nI ey) (nI le) en (oI wo), aI cI (b 4) 1920 gr]) hK hP [0, 1] rfl 8 0 rfl rfl rfl) rfl rfl hl.1 rfl (lv_room (Nat.le_of_ble_eq_true rfl)) dX8_valueOf_21 ⟨Nat.zero_le _, Nat.zero_le _⟩) ?_
      refine nb_if_eq (tgt := 64) hx hb dX8_valueOf_24 (by decide) (fun c_24 => ?_) (fun c_24 => ?_)
      · refine lv_iinc (v := nI (k + 1)) (lv' := [(5, .int (nI (k + 1))), (0, .ref (b 0)), (1, .int (nI d)), (2, .long (lN (vS u we d k))), (4, .int (nI (vC u we d k)))]) hx hb dX8_valueOf_64 hl (k := 4) rfl (nI_add k 1) (by decide) rfl (fun ls hl => ?_)
        refine lv_goto (tgt := 8) hx hb dX8_valueOf_67 (by decide) ?_
        exact ih_8 (k + 1) (by first | rfl | omega | (simp_all; done)) (by omega) ls (lvcv (l := [(0, .ref (b 0)), (1, .int (nI d)), (2, .long (lN (vS u we d k))), (4, .int (nI (vC u we d k))), (5, .int (nI (k + 1)))]) (lv_sub hl [1, 2, 3, 4, 0] rfl) (lvC (lvC (lvL (congrArg lN (show (vS u we d k) = (vS u we d (k + 1)) from by first | rfl | (simp only [vS, sm_s]; split <;> first | omega | (simp_all; done) | (simp_all; omega)))) (lvI (congrArg nI (show (vC u we d k) = (vC u we d (k + 1)) from by first | rfl | (simp only [vC, sm_s]; split <;> first | omega | (simp_all; done) | (simp_all; omega)))) (lvC rfl))))))
      refine lv_aload_n hx hb dX8_valueOf_27 rfl (lv_at hl 0 rfl) ?_
      refine va_get (D := G) (own := RX8) (ref := "SpotRowsModel") (ci := 8) (v := .ref (b 14)) (C := RX8) (T := TX8) (N := 23) hx hb hts hinX8 hown hK.1 hP 0 rfl rfl 20 (by decide) fl64 (fun _ h9 => h9) rfl dX8_valueOf_28 ?_
      refine lv_iload hx hb dX8_valueOf_31 (lv_at hl 4 rfl) ?_
      refine ld_oF hx hb hK hP 3 (k := k) rfl (by first | omega | exact Nat.le_trans (wb _) (by decide) | exact Nat.lt_of_le_of_lt (wb _) (by decide)) (by decide) dX8_valueOf_33 ?_
      refine lv_iconst (v := (-1)) hx hb dX8_valueOf_34 (by decide) ?_
      refine no_icmp_ne (tgt := 41) hx hb dX8_valueOf_35 (by decide) (by first | omega | exact Nat.le_trans (wb _) (by decide) | exact Nat.lt_of_le_of_lt (wb _) (by decide)) (fun c_35 => ?_) (fun c_35 => ?_)
      · refine lv_lload_n hx hb dX8_valueOf_41 rfl (lv_at hl 2 rfl) ?_
        refine lv_aload_n hx hb dX8_valueOf_42 rfl (lv_at hl 0 rfl) ?_
        refine lv_iload hx hb dX8_valueOf_43 (lv_at hl 4 rfl) ?_
        refine lv_iload_n hx hb dX8_valueOf_45 rfl (lv_at hl 1 rfl) ?_
        refine cro_i (va_runV (As := [.int (nI k), .int (nI d)]) (rest := [.long (lN (vS u we d k))]) ⟨hx, hb, hml, hown, hts⟩ (c_X8_number l G cI cJ (b := b) (st := st) (tp := tp) (bt := bt) (ey := ey) (le := nI le) (en := en) (wo := oI wo) (t := t) (gr := gr) (sp := sp) (x := k) (d := d) (hey := by first | assumption | omega) (hG := by first | assumption | omega) (h_x := by first | assumption | omega) (h_d := by first | assumption | omega) (hn := UW_t hu h_d c_24)) (cwV 2 hts gX8_valueOf_X8_number rfl rfl rfl (by decide +kernel) ⟨Nat.le_of_ble_eq_true rfl, Nat.le_of_ble_eq_true rfl⟩) (preV_ro (wc := [oM b st tp bt (nI ey) (nI le) en (oI wo), aI cI (b 4) 1920 gr, aI cI (b 5) 1920 sp]) hK hP [0, 1, 2] rfl 8 0 rfl rfl rfl) rfl rfl hl.1 rfl (lv_room (Nat.le_of_ble_eq_true rfl)) dX8_valueOf_46 ⟨Nat.zero_le _, Nat.zero_le _⟩) ?_
        refine toi (show (nI (num t (k * 240 + d))) = (nI (num u (k * 240 + d))) from congrArg nI (UW_num hu h_d c_24)) ?_
        refine lv_i2l (v := lN (num u (k * 240 + d))) hx hb dX8_valueOf_49 (nI_l (by first | omega | exact Nat.le_trans (wb _) (by decide) | exact Nat.lt_of_le_of_lt (wb _) (by decide))) ?_
        refine lv_aload_n hx hb dX8_valueOf_50 rfl (lv_at hl 0 rfl) ?_
        refine va_get (D := G) (own := RX8) (ref := "SpotRowsModel") (ci := 8) (v := .ref (b 14)) (C := RX8) (T := TX8) (N := 23) hx hb hts hinX8 hown hK.1 hP 0 rfl rfl 20 (by decide) fl64 (fun _ h9 => h9) rfl dX8_valueOf_51 ?_
        refine lv_iload hx hb dX8_valueOf_54 (lv_at hl 4 rfl) ?_
        refine ld_oF hx hb hK hP 3 (k := k) rfl (by first | omega | exact Nat.le_trans (wb _) (by decide) | exact Nat.lt_of_le_of_lt (wb _) (by decide)) (by decide) dX8_valueOf_56 ?_
        refine toi (oI_pos (by first | assumption | omega)) ?_
        refine lv_i2l (v := lN (we k - 1)) hx hb dX8_valueOf_57 (nI_l (by first | omega | exact Nat.le_trans (wb _) (by decide) | exact Nat.lt_of_le_of_lt (wb _) (by decide))) ?_
        refine lv_lmul hx hb dX8_valueOf_58 ?_
        refine tol (lN_mul (num u (k * 240 + d)) (we k - 1)) ?_
        refine lv_ladd hx hb dX8_valueOf_59 ?_
        refine tol (lN_add (vS u we d k) (num u (k * 240 + d) * (we k - 1))) ?_
        refine lv_lstore_n (lv' := [(2, .long (lN (vS u we d k + num u (k * 240 + d) * (we k - 1)))), (0, .ref (b 0)), (1, .int (nI d)), (4, .int (nI (vC u we d k))), (5, .int (nI k))]) hx hb dX8_valueOf_60 rfl hl (by decide) rfl (fun ls hl => ?_)
        refine lv_iinc (v := nI (vC u we d k + 1)) (lv' := [(4, .int (nI (vC u we d k + 1))), (2, .long (lN (vS u we d k + num u (k * 240 + d) * (we k - 1)))), (0, .ref (b 0)), (1, .int (nI d)), (5, .int (nI k))]) hx hb dX8_valueOf_61 hl (k := 3) rfl (nI_add (vC u we d k) 1) (by decide) rfl (fun ls hl => ?_)
        refine lv_iinc (v := nI (k + 1)) (lv' := [(5, .int (nI (k + 1))), (4, .int (nI (vC u we d k + 1))), (2, .long (lN (vS u we d k + num u (k * 240 + d) * (we k - 1)))), (0, .ref (b 0)), (1, .int (nI d))]) hx hb dX8_valueOf_64 hl (k := 4) rfl (nI_add k 1) (by decide) rfl (fun ls hl => ?_)
        refine lv_goto (tgt := 8) hx hb dX8_valueOf_67 (by decide) ?_
        exact ih_8 (k + 1) (by first | rfl | omega | (simp_all; done)) (by omega) ls (lvcv (l := [(0, .ref (b 0)), (1, .int (nI d)), (2, .long (lN (vS u we d k + num u (k * 240 + d) * (we k - 1)))), (4, .int (nI (vC u we d k + 1))), (5, .int (nI (k + 1)))]) (lv_sub hl [3, 4, 2, 1, 0] rfl) (lvC (lvC (lvL (congrArg lN (show (vS u we d k + num u (k * 240 + d) * (we k - 1)) = (vS u we d (k + 1)) from by first | rfl | (simp only [vS, sm_s]; split <;> first | omega | (simp_all; done) | (simp_all; omega)))) (lvI (congrArg nI (show (vC u we d k + 1) = (vC u we d (k + 1)) from by first | rfl | (simp only [vC, sm_s]; split <;> first | omega | (simp_all; done) | (simp_all; omega)))) (lvC rfl))))))
      refine lv_goto (tgt := 64) hx hb dX8_valueOf_38 (by decide) ?_
      refine lv_iinc (v := nI (k + 1)) (lv' := [(5, .int (nI (k + 1))), (0, .ref (b 0)), (1, .int (nI d)), (2, .long (lN (vS u we d k))), (4, .int (nI (vC u we d k)))]) hx hb dX8_valueOf_64 hl (k := 4) rfl (nI_add k 1) (by decide) rfl (fun ls hl => ?_)
      refine lv_goto (tgt := 8) hx hb dX8_valueOf_67 (by decide) ?_
      exact ih_8 (k + 1) (by first | rfl | omega | (simp_all; done)) (by omega) ls (lvcv (l := [(0, .ref (b 0)), (1, .int (nI d)), (2, .long (lN (vS u we d k))), (4, .int (nI (vC u we d k))), (5, .int (nI (k + 1)))]) (lv_sub hl [1, 2, 3, 4, 0] rfl) (lvC (lvC (lvL (congrArg lN (show (vS u we d k) = (vS u we d (k + 1)) from by first | rfl | (simp only [vS, sm_s]; split <;> first | omega | (simp_all; done) | (simp_all; omega)))) (lvI (congrArg nI (show (vC u we d k) = (vC u we d (k + 1)) from by first | rfl | (simp only [vC, sm_s]; split <;> first | omega | (simp_all; done) | (simp_all; omega)))) (lvC rfl))))))
  exact lp_8 (ey - 0 + 1) 0 (by first | rfl | omega | (simp_all; done)) (by omega) ls (lvcv (l := [(0, .ref (b 0)), (1, .int (nI d)), (2, .long (lN 0)), (4, .int (nI 0)), (5, .int (nI 0))]) (lv_sub hl [3, 4, 2, 1, 0] rfl) (lvC (lvC (lvL (congrArg lN (show 0 = (vS u we d 0) from by rfl)) (lvI (congrArg nI (show 0 = (vC u we d 0) from by rfl)) (lvC rfl))))))

set_option maxHeartbeats 400000 in
set_option maxRecDepth 100000 in
theorem c_X8_monthOf (l : Launch) (G : va_G) (cI cJ : ClassId) (b : Nat → Nat) (st : Int32) (tp : Int64) (bt : Int64) (ey : Nat) (le : Nat) (en : Nat) (wo : Nat) (t : Nat → Nat) (u : Nat → Nat) (gr : Nat → Int32) (sp : Nat → Int32) (we : Nat → Nat) (m : Nat) (tb : TB t) (hey : ey ≤ 8) (hG : GM t ey gr sp) (hu : UW t u wo) (hwo : wo ≤ 8) (tbu : TB u) (wb : WB we) (hm : m < 24) (hen : 1 ≤ en ∧ en ≤ 10) : Met l yX8_monthOf wsX8_monthOf ({ frames := 3, cells := 0, slots := 0, locals := 68 }) (roP G cI cJ [.ref (b 0), .int (nI m)] [oM b st tp bt (nI ey) (nI le) (nI en) (oI wo), aI cI (b 4) 1920 gr, aI cI (b 5) 1920 sp, aI cI (b 14) 8 (oF we)]) (vp_Si (fun r => r = oI (mV u we ey en m))) 0 0 (fun _ => False) := by
  refine Met.ofW (cc := cX8_monthOf) (maxL := 7) (ret := (some .int)) (by decide) rfl ?_
  intro pg ev s mt args below meth cd s₁ B hml hv
  obtain ⟨rfl, hP, hK⟩ := hv
  have hx := B.exec
  have hb := B.bytes
  have hr := B.returns
  have hts := atoms_spec (ws := wsX8_monthOf) B.pre
  have hown : s.vm.findClass RX8 = some mt.cls := findClass_of_methodNamed B.named
  have hlocks := B.notSynchronized
  have hP : va_P G vwCl [oM b st tp bt (nI ey) (nI le) (nI en) (oI wo), aI cI (b 4) 1920 gr, aI cI (b 5) 1920 sp, aI cI (b 14) 8 (oF we)] s.heap := hP
  have hinX8 := (show ∀ w ∈ u_ws RX8 TX8 23, w ∈ wsX8_monthOf by decide +kernel)
  have fl28 := hts (.fieldLink RX8 28 "SpotRowsModel" "enough" "I") (by decide +kernel)
  have hl := lv_entry ([.ref (b 0), .int (nI m)]) (n := 7) (Nat.le_of_ble_eq_true rfl)
  rw [lg_entry_eq]
  generalize (lg_sl ([.ref (b 0), .int (nI m)]) ++ List.replicate (7 - (lg_sl ([.ref (b 0), .int (nI m)])).length) Slot.unset).toArray = ls at hl ⊢
  have hl : lv_has ls 7 [(0, .ref (b 0)), (1, .int (nI m))] := hl
  refine lv_lconst (v := lN 0) hx hb dX8_monthOf_0 (by decide) ?_
  refine lv_lstore_n (lv' := [(2, .long (lN 0)), (0, .ref (b 0)), (1, .int (nI m))]) hx hb dX8_monthOf_1 rfl hl (by decide) rfl (fun ls hl => ?_)
  refine lv_iconst (v := nI 0) hx hb dX8_monthOf_2 (by decide) ?_
  refine lv_istore (lv' := [(4, .int (nI 0)), (2, .long (lN 0)), (0, .ref (b 0)), (1, .int (nI m))]) hx hb dX8_monthOf_3 hl (by decide) rfl (fun ls hl => ?_)
  refine lv_bipush (v := nI 10) hx hb dX8_monthOf_5 (by decide) ?_
  refine lv_iload_n hx hb dX8_monthOf_7 rfl (lv_at hl 3 rfl) ?_
  refine lv_imul hx hb dX8_monthOf_8 ?_
  refine toi (pk_mul 10 m) ?_
  refine lv_istore (lv' := [(5, .int (nI (10 * m))), (4, .int (nI 0)), (2, .long (lN 0)), (0, .ref (b 0)), (1, .int (nI m))]) hx hb dX8_monthOf_9 hl (by decide) rfl (fun ls hl => ?_)
  have lp_11 : ∀ (nf : Nat) (k : Nat), (k ≤ 10) → 10 - k < nf → ∀ (ls : Array Slot), lv_has ls 7 [(0, .ref (b 0)), (1, .int (nI m)), (2, .long (lN (mS u we ey m k))), (4, .int (nI (mC u we ey m k))), (5, .int (nI (10 * m + k)))] → W pg l ev (headSpec wsX8_monthOf ({ frames := 3, cells := 0, slots := 0, locals := 68 })).room s mt ([.ref (b 0), .int (nI m)] : List Value).toArray below meth cd s.heap [] 0 0 (MQ below (vp_Si (fun r => r = oI (mV u we ey en m))) ([.ref (b 0), .int (nI m)] : List Value).toArray s 0 0 (fun _ => False)) (F0 mt 11 ls []) := by
    intro nf
    induction nf with
    | zero => intro k hk hfu; exact absurd hfu (Nat.not_lt_zero _)
    | succ nf ih_11 =>
      intro k hk hfu ls hl
      have f1 := mC_le u we ey m k
      have f2 := mS_le tbu wb ey m k
      have f3 := vD_le tbu wb ey (m * 10 + k)
      refine lv_iload hx hb dX8_monthOf_11 (lv_at hl 4 rfl) ?_
      refine lv_bipush (v := nI 10) hx hb dX8_monthOf_13 (by decide) ?_
      refine lv_iload_n hx hb dX8_monthOf_15 rfl (lv_at hl 1 rfl) ?_
      refine lv_imul hx hb dX8_monthOf_16 ?_
      refine toi (pk_mul 10 m) ?_
      refine lv_bipush (v := nI 10) hx hb dX8_monthOf_17 (by decide) ?_
      refine lv_iadd hx hb dX8_monthOf_19 ?_
      refine toi (nI_add (10 * m) 10) ?_
      refine nv_icmp_ge (tgt := 55) hx hb dX8_monthOf_20 (by decide) (by first | omega | exact Nat.le_trans (vD_le tbu wb _ _) (by decide) | exact Nat.lt_of_le_of_lt (vD_le tbu wb _ _) (by decide)) (by first | omega | exact Nat.le_trans (vD_le tbu wb _ _) (by decide) | exact Nat.lt_of_le_of_lt (vD_le tbu wb _ _) (by decide)) (fun c_20 => ?_) (fun c_20 => ?_)
      · refine lv_iload hx hb dX8_monthOf_55 (lv_at hl 3 rfl) ?_
        refine lv_aload_n hx hb dX8_monthOf_57 rfl (lv_at hl 0 rfl) ?_
        refine va_get (D := G) (own := RX8) (ref := "SpotRowsModel") (ci := 8) (v := .int (nI en)) (C := RX8) (T := TX8) (N := 23) hx hb hts hinX8 hown hK.1 hP 0 rfl rfl 8 (by decide) fl28 (fun _ h9 => h9) rfl dX8_monthOf_58 ?_
        refine nv_icmp_ge (tgt := 68) hx hb dX8_monthOf_61 (by decide) (by first | omega | exact Nat.le_trans (vD_le tbu wb _ _) (by decide) | exact Nat.lt_of_le_of_lt (vD_le tbu wb _ _) (by decide)) (by first | omega | exact Nat.le_trans (vD_le tbu wb _ _) (by decide) | exact Nat.lt_of_le_of_lt (vD_le tbu wb _ _) (by decide)) (fun c_61 => ?_) (fun c_61 => ?_)
        · refine lv_lload_n hx hb dX8_monthOf_68 rfl (lv_at hl 2 rfl) ?_
          refine lv_iload hx hb dX8_monthOf_69 (lv_at hl 3 rfl) ?_
          refine lv_i2l (v := lN (mC u we ey m k)) hx hb dX8_monthOf_71 (nI_l (by first | omega | exact Nat.le_trans (vD_le tbu wb _ _) (by decide) | exact Nat.lt_of_le_of_lt (vD_le tbu wb _ _) (by decide))) ?_
          refine lv_ldiv hx hb dX8_monthOf_72 (lN_ne0 (by first | omega | exact Nat.le_trans (vD_le tbu wb _ _) (by decide) | exact Nat.lt_of_le_of_lt (vD_le tbu wb _ _) (by decide)) (by first | omega | exact Nat.le_trans (vD_le tbu wb _ _) (by decide) | exact Nat.lt_of_le_of_lt (vD_le tbu wb _ _) (by decide))) ?_
          refine tol (pk_lDiv (a := (mS u we ey m k)) (b := (mC u we ey m k)) (by first | omega | exact Nat.le_trans (vD_le tbu wb _ _) (by decide) | exact Nat.lt_of_le_of_lt (vD_le tbu wb _ _) (by decide)) (by first | omega | exact Nat.le_trans (vD_le tbu wb _ _) (by decide) | exact Nat.lt_of_le_of_lt (vD_le tbu wb _ _) (by decide)) (by first | omega | exact Nat.le_trans (vD_le tbu wb _ _) (by decide) | exact Nat.lt_of_le_of_lt (vD_le tbu wb _ _) (by decide))) ?_
          refine lv_l2i (v := nI (mS u we ey m k / mC u we ey m k)) hx hb dX8_monthOf_73 (lN_i (mS u we ey m k / mC u we ey m k)) ?_
          exact W.iret (v := nI (mS u we ey m k / mC u we ey m k)) hx hb hr (fun zt ht zw => ⟨_, rfl, ((nI_o (mS u we ey m k / mC u we ey m k)).trans (congrArg oI (show (mS u we ey m k / mC u we ey m k) + 1 = (mV u we ey en m) from by (have hke : k = 10 := by omega); (simp only [hke] at *); (simp only [mV]); split <;> first | omega | rfl))), ht⟩) (fun q hq => absurd hq List.not_mem_nil) dX8_monthOf_74
        refine lv_iconst (v := (-1)) hx hb dX8_monthOf_64 (by decide) ?_
        refine lv_goto (tgt := 74) hx hb dX8_monthOf_65 (by decide) ?_
        exact W.iret (v := (-1)) hx hb hr (fun zt ht zw => ⟨_, rfl, (m1_o.trans (congrArg oI (show 0 = (mV u we ey en m) from by (have hke : k = 10 := by omega); (simp only [hke] at *); (simp only [mV]); split <;> first | omega | rfl))), ht⟩) (fun q hq => absurd hq List.not_mem_nil) dX8_monthOf_74
      refine lv_aload_n hx hb dX8_monthOf_23 rfl (lv_at hl 0 rfl) ?_
      refine lv_iload hx hb dX8_monthOf_24 (lv_at hl 4 rfl) ?_
      refine cro_i (va_runV (As := [.int (nI (10 * m + k))]) (rest := []) ⟨hx, hb, hml, hown, hts⟩ (c_X8_valueOf l G cI cJ (b := b) (st := st) (tp := tp) (bt := bt) (ey := ey) (le := le) (en := nI en) (wo := wo) (t := t) (u := u) (gr := gr) (sp := sp) (we := we) (d := 10 * m + k) (tb := by first | assumption | omega) (hey := by first | assumption | omega) (hG := by first | assumption | omega) (hu := by first | assumption | omega) (hwo := by first | assumption | omega) (tbu := by first | assumption | omega) (wb := by first | assumption | omega) (h_d := by first | assumption | omega)) (cwV 1 hts gX8_monthOf_X8_valueOf rfl rfl rfl (by decide +kernel) ⟨Nat.le_of_ble_eq_true rfl, Nat.le_of_ble_eq_true rfl⟩) (preV_ro (wc := [oM b st tp bt (nI ey) (nI le) (nI en) (oI wo), aI cI (b 4) 1920 gr, aI cI (b 5) 1920 sp, aI cI (b 14) 8 (oF we)]) hK hP [0, 1, 2, 3] rfl 8 0 rfl rfl rfl) rfl rfl hl.1 rfl (lv_room (Nat.le_of_ble_eq_true rfl)) dX8_monthOf_26 ⟨Nat.zero_le _, Nat.zero_le _⟩) ?_
      refine toi (show (oI (vD u we ey (10 * m + k))) = (oI (vD u we ey (m * 10 + k))) from congrArg oI (by rw [Nat.mul_comm 10 m])) ?_
      refine lv_istore (lv' := [(6, .int (oI (vD u we ey (m * 10 + k)))), (0, .ref (b 0)), (1, .int (nI m)), (2, .long (lN (mS u we ey m k))), (4, .int (nI (mC u we ey m k))), (5, .int (nI (10 * m + k)))]) hx hb dX8_monthOf_29 hl (by decide) rfl (fun ls hl => ?_)
      refine lv_iload hx hb dX8_monthOf_31 (lv_at hl 0 rfl) ?_
      refine lv_iconst (v := (-1)) hx hb dX8_monthOf_33 (by decide) ?_
      refine no_icmp_ne (tgt := 40) hx hb dX8_monthOf_34 (by decide) (by first | omega | exact Nat.le_trans (vD_le tbu wb _ _) (by decide) | exact Nat.lt_of_le_of_lt (vD_le tbu wb _ _) (by decide)) (fun c_34 => ?_) (fun c_34 => ?_)
      · refine lv_lload_n hx hb dX8_monthOf_40 rfl (lv_at hl 3 rfl) ?_
        refine lv_iload hx hb dX8_monthOf_41 (lv_at hl 0 rfl) ?_
        refine toi (oI_pos (by first | assumption | omega)) ?_
        refine lv_i2l (v := lN (vD u we ey (m * 10 + k) - 1)) hx hb dX8_monthOf_43 (nI_l (by first | omega | exact Nat.le_trans (vD_le tbu wb _ _) (by decide) | exact Nat.lt_of_le_of_lt (vD_le tbu wb _ _) (by decide))) ?_
        refine lv_ladd hx hb dX8_monthOf_44 ?_
        refine tol (lN_add (mS u we ey m k) (vD u we ey (m * 10 + k) - 1)) ?_
        refine lv_lstore_n (lv' := [(2, .long (lN (mS u we ey m k + (vD u we ey (m * 10 + k) - 1)))), (6, .int (oI (vD u we ey (m * 10 + k)))), (0, .ref (b 0)), (1, .int (nI m)), (4, .int (nI (mC u we ey m k))), (5, .int (nI (10 * m + k)))]) hx hb dX8_monthOf_45 rfl hl (by decide) rfl (fun ls hl => ?_)
        refine lv_iinc (v := nI (mC u we ey m k + 1)) (lv' := [(4, .int (nI (mC u we ey m k + 1))), (2, .long (lN (mS u we ey m k + (vD u we ey (m * 10 + k) - 1)))), (6, .int (oI (vD u we ey (m * 10 + k)))), (0, .ref (b 0)), (1, .int (nI m)), (5, .int (nI (10 * m + k)))]) hx hb dX8_monthOf_46 hl (k := 4) rfl (nI_add (mC u we ey m k) 1) (by decide) rfl (fun ls hl => ?_)
        refine lv_iinc (v := nI (10 * m + k + 1)) (lv' := [(5, .int (nI (10 * m + k + 1))), (4, .int (nI (mC u we ey m k + 1))), (2, .long (lN (mS u we ey m k + (vD u we ey (m * 10 + k) - 1)))), (6, .int (oI (vD u we ey (m * 10 + k)))), (0, .ref (b 0)), (1, .int (nI m))]) hx hb dX8_monthOf_49 hl (k := 5) rfl (nI_add (10 * m + k) 1) (by decide) rfl (fun ls hl => ?_)
        refine lv_goto (tgt := 11) hx hb dX8_monthOf_52 (by decide) ?_
        exact ih_11 (k + 1) (by first | rfl | omega | (simp_all; done)) (by omega) ls (lvcv (l := [(0, .ref (b 0)), (1, .int (nI m)), (2, .long (lN (mS u we ey m k + (vD u we ey (m * 10 + k) - 1)))), (4, .int (nI (mC u we ey m k + 1))), (5, .int (nI (10 * m + k + 1)))]) (lv_sub hl [4, 5, 2, 1, 0] rfl) (lvC (lvC (lvL (congrArg lN (show (mS u we ey m k + (vD u we ey (m * 10 + k) - 1)) = (mS u we ey m (k + 1)) from by first | rfl | (simp only [mS, sm_s]; omega))) (lvI (congrArg nI (show (mC u we ey m k + 1) = (mC u we ey m (k + 1)) from by first | rfl | (simp only [mC, sm_s]; split <;> first | omega | (simp_all; done) | (simp_all; omega)))) (lvI (congrArg nI (show (10 * m + k + 1) = (10 * m + (k + 1)) from by omega)) rfl))))))
      refine lv_goto (tgt := 49) hx hb dX8_monthOf_37 (by decide) ?_
      refine lv_iinc (v := nI (10 * m + k + 1)) (lv' := [(5, .int (nI (10 * m + k + 1))), (6, .int (oI (vD u we ey (m * 10 + k)))), (0, .ref (b 0)), (1, .int (nI m)), (2, .long (lN (mS u we ey m k))), (4, .int (nI (mC u we ey m k)))]) hx hb dX8_monthOf_49 hl (k := 5) rfl (nI_add (10 * m + k) 1) (by decide) rfl (fun ls hl => ?_)
      refine lv_goto (tgt := 11) hx hb dX8_monthOf_52 (by decide) ?_
      exact ih_11 (k + 1) (by first | rfl | omega | (simp_all; done)) (by omega) ls (lvcv (l := [(0, .ref (b 0)), (1, .int (nI m)), (2, .long (lN (mS u we ey m k))), (4, .int (nI (mC u we ey m k))), (5, .int (nI (10 * m + k + 1)))]) (lv_sub hl [2, 3, 4, 5, 0] rfl) (lvC (lvC (lvL (congrArg lN (show (mS u we ey m k) = (mS u we ey m (k + 1)) from by first | rfl | (simp only [mS, sm_s]; omega))) (lvI (congrArg nI (show (mC u we ey m k) = (mC u we ey m (k + 1)) from by first | rfl | (simp only [mC, sm_s]; split <;> first | omega | (simp_all; done) | (simp_all; omega)))) (lvI (congrArg nI (show (10 * m + k + 1) = (10 * m + (k + 1)) from by omega)) rfl))))))
  exact lp_11 (10 - 0 + 1) 0 (by first | rfl | omega | (simp_all; done)) (by omega) ls (lvcv (l := [(0, .ref (b 0)), (1, .int (nI m)), (2, .long (lN 0)), (4, .int (nI 0)), (5, .int (nI (10 * m)))]) (lv_sub hl [3, 4, 2, 1, 0] rfl) (lvC (lvC (lvL (congrArg lN (show 0 = (mS u we ey m 0) from by rfl)) (lvI (congrArg nI (show 0 = (mC u we ey m 0) from by rfl)) (lvI (congrArg nI (show (10 * m) = (10 * m + 0) from by omega)) rfl))))))
