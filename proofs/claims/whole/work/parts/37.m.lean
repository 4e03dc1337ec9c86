set_option maxHeartbeats 400000 in
set_option maxRecDepth 100000 in
theorem c_X8_lay (l : Launch) (G : va_G) (cI cJ : ClassId) (b : Nat → Nat) (st : Int32) (tp : Int64) (bt : Int64) (ey : Nat) (le : Nat) (en : Int32) (wo : Nat) (t : Nat → Nat) (u : Nat → Nat) (gr : Nat → Int32) (sp : Nat → Int32) (fa : Nat → Nat) (sg : Nat → Nat) (nx : Nat → Nat) (ti : Nat → Nat) (fx : Nat → Nat) (wy : Nat → Nat) (x : Nat) (tb : TB t) (hey : ey ≤ 8) (hG : GM t ey gr sp) (hu : UW t u wo) (hwo : wo ≤ 8) (tbu : TB u) (hle : 1 ≤ le ∧ le ≤ 100) (h_x : x < ey) : Met l yX8_lay wsX8_lay ({ frames := 5, cells := 0, slots := 0, locals := 119 }) (rwP G cI cJ [.ref (b 0), .int (nI x)] [oM b st tp bt (nI ey) (nI le) en (oI wo), aI cI (b 4) 1920 gr, aI cI (b 5) 1920 sp, aI cI (b 8) 8 (oF fa), aI cI (b 9) 8 (nF sg), aI cI (b 10) 8 (oF nx), aI cI (b 11) 64 (nF ti), aI cI (b 12) 64 (oF fx), aI cI (b 13) 8 (nF wy)]) (rwQi G [oM b st tp bt (nI ey) (nI le) en (oI wo), aI cI (b 4) 1920 gr, aI cI (b 5) 1920 sp, aI cI (b 8) 8 (oF fa), aI cI (b 9) 8 (nF sg), aI cI (b 10) 8 (oF nx), aI cI (b 11) 64 (nF ti), aI cI (b 12) 64 (oF fx), aI cI (b 13) 8 (nF wy)] (fun (r : Int32) (zu : (Nat → Nat) × (Nat → Nat) × (Nat → Nat) × (Nat → Nat) × (Nat → Nat)) => match zu with | (fa2, sg2, nx2, ti2, fx2) => r = oI (if lnF u le ey 0 x = 0 then 0 else lnF u le ey 0 x + 1) ∧ FT u le ey fx2 ti2 ey 0) (fun (zu : (Nat → Nat) × (Nat → Nat) × (Nat → Nat) × (Nat → Nat) × (Nat → Nat)) => match zu with | (fa2, sg2, nx2, ti2, fx2) => [oM b st tp bt (nI ey) (nI le) en (oI wo), aI cI (b 4) 1920 gr, aI cI (b 5) 1920 sp, aI cI (b 8) 8 (oF fa2), aI cI (b 9) 8 (nF sg2), aI cI (b 10) 8 (oF nx2), aI cI (b 11) 64 (nF ti2), aI cI (b 12) 64 (oF fx2), aI cI (b 13) 8 (nF (if lnF u le ey 0 x = 0 then wy else pfx (wyF u le ey (lnF u le ey 0) (wdF u le ey 0) x) wy (lnF u le ey 0 x)))])) 0 0 (ads [oM b st tp bt (nI ey) (nI le) en (oI wo), aI cI (b 4) 1920 gr, aI cI (b 5) 1920 sp, aI cI (b 8) 8 (oF fa), aI cI (b 9) 8 (nF sg), aI cI (b 10) 8 (oF nx), aI cI (b 11) 64 (nF ti), aI cI (b 12) 64 (oF fx), aI cI (b 13) 8 (nF wy)]) := by
  refine Met.ofW (cc := cX8_lay) (maxL := 6) (ret := (some .int)) (by decide) rfl ?_
  intro pg ev s mt args below meth cd s₁ B hml hv
  obtain ⟨rfl, hP, hD0, hK⟩ := hv
  have hx := B.exec
  have hb := B.bytes
  have hr := B.returns
  have hts := atoms_spec (ws := wsX8_lay) B.pre
  have hown : s.vm.findClass RX8 = some mt.cls := findClass_of_methodNamed B.named
  have hlocks := B.notSynchronized
  have hD := ads_self hD0
  generalize hAe : ads [oM b st tp bt (nI ey) (nI le) en (oI wo), aI cI (b 4) 1920 gr, aI cI (b 5) 1920 sp, aI cI (b 8) 8 (oF fa), aI cI (b 9) 8 (nF sg), aI cI (b 10) 8 (oF nx), aI cI (b 11) 64 (nF ti), aI cI (b 12) 64 (oF fx), aI cI (b 13) 8 (nF wy)] = A at hD ⊢
  have hS : va_S A s.heap s.heap [] := va_S.rf
  have hP : va_P G vwCl [oM b st tp bt (nI ey) (nI le) en (oI wo), aI cI (b 4) 1920 gr, aI cI (b 5) 1920 sp, aI cI (b 8) 8 (oF fa), aI cI (b 9) 8 (nF sg), aI cI (b 10) 8 (oF nx), aI cI (b 11) 64 (nF ti), aI cI (b 12) 64 (oF fx), aI cI (b 13) 8 (nF wy)] s.heap := hP
  have hinX8 := (show ∀ w ∈ u_ws RX8 TX8 23, w ∈ wsX8_lay by decide +kernel)
  have fl46 := hts (.fieldLink RX8 46 "SpotRowsModel" "far" "[I") (by decide +kernel)
  have fl49 := hts (.fieldLink RX8 49 "SpotRowsModel" "strong" "[I") (by decide +kernel)
  have fl61 := hts (.fieldLink RX8 61 "SpotRowsModel" "way" "[I") (by decide +kernel)
  have fl58 := hts (.fieldLink RX8 58 "SpotRowsModel" "factors" "[I") (by decide +kernel)
  have fl55 := hts (.fieldLink RX8 55 "SpotRowsModel" "ties" "[I") (by decide +kernel)
  have hl := lv_entry ([.ref (b 0), .int (nI x)]) (n := 6) (Nat.le_of_ble_eq_true rfl)
  rw [lg_entry_eq]
  generalize (lg_sl ([.ref (b 0), .int (nI x)]) ++ List.replicate (6 - (lg_sl ([.ref (b 0), .int (nI x)])).length) Slot.unset).toArray = ls at hl ⊢
  have hl : lv_has ls 6 [(0, .ref (b 0)), (1, .int (nI x))] := hl
  have hc0 := lnF_CH u le ey 0 hey
  refine lv_aload_n hx hb dX8_lay_0 rfl (lv_at hl 0 rfl) ?_
  refine crw_v (free := fun _ => True) (va_runV (As := []) (rest := []) ⟨hx, hb, hml, hown, hts⟩ (c_X8_look l G cI cJ (b := b) (st := st) (tp := tp) (bt := bt) (ey := ey) (le := le) (en := en) (wo := wo) (t := t) (u := u) (gr := gr) (sp := sp) (fa := fa) (sg := sg) (nx := nx) (ti := ti) (fx := fx) (tb := by first | assumption | omega) (hey := by first | assumption | omega) (hG := by first | assumption | omega) (hu := by first | assumption | omega) (hwo := by first | assumption | omega) (tbu := by first | assumption | omega) (hle := by first | assumption | omega)) (cwV 0 hts gX8_lay_X8_look rfl rfl rfl (by decide +kernel) ⟨Nat.le_of_ble_eq_true rfl, Nat.le_of_ble_eq_true rfl⟩) (preV_rw (wc := [oM b st tp bt (nI ey) (nI le) en (oI wo), aI cI (b 4) 1920 gr, aI cI (b 5) 1920 sp, aI cI (b 8) 8 (oF fa), aI cI (b 9) 8 (nF sg), aI cI (b 10) 8 (oF nx), aI cI (b 11) 64 (nF ti), aI cI (b 12) 64 (oF fx)]) hK hP hD [0, 1, 2, 3, 4, 5, 6, 7] rfl rfl 8 0 rfl rfl rfl) rfl rfl hl.1 rfl (lv_room (Nat.le_of_ble_eq_true rfl)) dX8_lay_1 ⟨Nat.zero_le _, Nat.zero_le _⟩) hP hD hS [0, 1, 2, 3, 4, 5, 6, 7] rfl [b 0, b 4, b 5, b 8, b 9, b 10, b 11, b 12] (fun u => rfl) rfl (fun u_ H locs hw_1 hP hD hS => ?_)
  obtain ⟨fa2_1, sg2_1, nx2_1, ti2_1, fx2_1⟩ := u_
  have hP : va_P G vwCl [oM b st tp bt (nI ey) (nI le) en (oI wo), aI cI (b 4) 1920 gr, aI cI (b 5) 1920 sp, aI cI (b 8) 8 (oF fa2_1), aI cI (b 9) 8 (nF sg2_1), aI cI (b 10) 8 (oF nx2_1), aI cI (b 11) 64 (nF ti2_1), aI cI (b 12) 64 (oF fx2_1), aI cI (b 13) 8 (nF wy)] H := hP
  have hD : va_D A [oM b st tp bt (nI ey) (nI le) en (oI wo), aI cI (b 4) 1920 gr, aI cI (b 5) 1920 sp, aI cI (b 8) 8 (oF fa2_1), aI cI (b 9) 8 (nF sg2_1), aI cI (b 10) 8 (oF nx2_1), aI cI (b 11) 64 (nF ti2_1), aI cI (b 12) 64 (oF fx2_1), aI cI (b 13) 8 (nF wy)] := hD
  have f0 : fa2_1 x ≤ 8 := by rw [(hw_1.1 x h_x).1]; exact hc0.2.2.1 x
  refine lv_aload_n hx hb dX8_lay_4 rfl (lv_at hl 0 rfl) ?_
  refine va_get (D := G) (own := RX8) (ref := "SpotRowsModel") (ci := 8) (v := .ref (b 8)) (C := RX8) (T := TX8) (N := 23) hx hb hts hinX8 hown hK.1 hP 0 rfl rfl 14 (by decide) fl46 (fun _ h9 => h9) rfl dX8_lay_5 ?_
  refine lv_iload_n hx hb dX8_lay_8 rfl (lv_at hl 1 rfl) ?_
  refine ld_oF hx hb hK hP 3 (k := x) rfl (by omega) (by decide) dX8_lay_9 ?_
  refine lv_iconst (v := (-1)) hx hb dX8_lay_10 (by decide) ?_
  refine no_icmp_ne (tgt := 16) hx hb dX8_lay_11 (by decide) (by omega) (fun c_11 => ?_) (fun c_11 => ?_)
  · have fx_ := (hw_1.1 x h_x).1
    have lx : lnF u le ey 0 x ≠ 0 := by omega
    have l8 := hc0.2.2.1 x
    have f8 : sg2_1 x ≤ 241 := by rw [(hw_1.1 x h_x).2]; have := hc0.2.2.2.1 x; split <;> omega
    refine lv_aload_n hx hb dX8_lay_16 rfl (lv_at hl 0 rfl) ?_
    refine va_get (D := G) (own := RX8) (ref := "SpotRowsModel") (ci := 8) (v := .ref (b 9)) (C := RX8) (T := TX8) (N := 23) hx hb hts hinX8 hown hK.1 hP 0 rfl rfl 15 (by decide) fl49 (fun _ h9 => h9) rfl dX8_lay_17 ?_
    refine lv_iload_n hx hb dX8_lay_20 rfl (lv_at hl 1 rfl) ?_
    refine ld_nF hx hb hK hP 4 (k := x) rfl (by omega) (by decide) dX8_lay_21 ?_
    refine lv_istore_n (lv' := [(2, .int (nI (sg2_1 x))), (0, .ref (b 0)), (1, .int (nI x))]) hx hb dX8_lay_22 rfl hl (by decide) rfl (fun ls hl => ?_)
    refine lv_iload_n hx hb dX8_lay_23 rfl (lv_at hl 2 rfl) ?_
    refine lv_istore_n (lv' := [(3, .int (nI x)), (2, .int (nI (sg2_1 x))), (0, .ref (b 0)), (1, .int (nI x))]) hx hb dX8_lay_24 rfl hl (by decide) rfl (fun ls hl => ?_)
    refine lv_aload_n hx hb dX8_lay_25 rfl (lv_at hl 2 rfl) ?_
    refine va_get (D := G) (own := RX8) (ref := "SpotRowsModel") (ci := 8) (v := .ref (b 13)) (C := RX8) (T := TX8) (N := 23) hx hb hts hinX8 hown hK.1 hP 0 rfl rfl 19 (by decide) fl61 (fun _ h9 => h9) rfl dX8_lay_26 ?_
    refine lv_iconst (v := nI 0) hx hb dX8_lay_29 (by decide) ?_
    refine lv_iload_n hx hb dX8_lay_30 rfl (lv_at hl 3 rfl) ?_
    refine st_nF hx hb hK hP hD hS 8 (k := 0) rfl (by omega) (by decide) dX8_lay_31 (fun H locs hP hD hS => ?_)
    have hP : va_P G vwCl [oM b st tp bt (nI ey) (nI le) en (oI wo), aI cI (b 4) 1920 gr, aI cI (b 5) 1920 sp, aI cI (b 8) 8 (oF fa2_1), aI cI (b 9) 8 (nF sg2_1), aI cI (b 10) 8 (oF nx2_1), aI cI (b 11) 64 (nF ti2_1), aI cI (b 12) 64 (oF fx2_1), aI cI (b 13) 8 (nF (upN wy 0 x))] H := hP
    have hD : va_D A [oM b st tp bt (nI ey) (nI le) en (oI wo), aI cI (b 4) 1920 gr, aI cI (b 5) 1920 sp, aI cI (b 8) 8 (oF fa2_1), aI cI (b 9) 8 (nF sg2_1), aI cI (b 10) 8 (oF nx2_1), aI cI (b 11) 64 (nF ti2_1), aI cI (b 12) 64 (oF fx2_1), aI cI (b 13) 8 (nF (upN wy 0 x))] := hD
    refine lv_iconst (v := nI 1) hx hb dX8_lay_32 (by decide) ?_
    refine lv_istore (lv' := [(4, .int (nI 1)), (3, .int (nI x)), (2, .int (nI (sg2_1 x))), (0, .ref (b 0)), (1, .int (nI x))]) hx hb dX8_lay_33 hl (by decide) rfl (fun ls hl => ?_)
    have lp_35 : ∀ (nf : Nat) (k : Nat) (h : Nat), (1 ≤ k ∧ k ≤ lnF u le ey 0 x) → (h = wyF u le ey (lnF u le ey 0) (wdF u le ey 0) x (k - 1)) → lnF u le ey 0 x - k < nf → ∀ (H : Heap) (locs : List Loc), va_P G vwCl [oM b st tp bt (nI ey) (nI le) en (oI wo), aI cI (b 4) 1920 gr, aI cI (b 5) 1920 sp, aI cI (b 8) 8 (oF fa2_1), aI cI (b 9) 8 (nF sg2_1), aI cI (b 10) 8 (oF nx2_1), aI cI (b 11) 64 (nF ti2_1), aI cI (b 12) 64 (oF fx2_1), aI cI (b 13) 8 (nF (pfx (wyF u le ey (lnF u le ey 0) (wdF u le ey 0) x) wy k))] H → va_D A [oM b st tp bt (nI ey) (nI le) en (oI wo), aI cI (b 4) 1920 gr, aI cI (b 5) 1920 sp, aI cI (b 8) 8 (oF fa2_1), aI cI (b 9) 8 (nF sg2_1), aI cI (b 10) 8 (oF nx2_1), aI cI (b 11) 64 (nF ti2_1), aI cI (b 12) 64 (oF fx2_1), aI cI (b 13) 8 (nF (pfx (wyF u le ey (lnF u le ey 0) (wdF u le ey 0) x) wy k))] → va_S A s.heap H locs → ∀ (ls : Array Slot), lv_has ls 6 [(0, .ref (b 0)), (1, .int (nI x)), (2, .int (nI (sg2_1 x))), (3, .int (nI h)), (4, .int (nI k))] → W pg l ev (headSpec wsX8_lay ({ frames := 5, cells := 0, slots := 0, locals := 119 })).room s mt ([.ref (b 0), .int (nI x)] : List Value).toArray below meth cd H locs 0 0 (MQ below (rwQi G [oM b st tp bt (nI ey) (nI le) en (oI wo), aI cI (b 4) 1920 gr, aI cI (b 5) 1920 sp, aI cI (b 8) 8 (oF fa), aI cI (b 9) 8 (nF sg), aI cI (b 10) 8 (oF nx), aI cI (b 11) 64 (nF ti), aI cI (b 12) 64 (oF fx), aI cI (b 13) 8 (nF wy)] (fun (r : Int32) (zu : (Nat → Nat) × (Nat → Nat) × (Nat → Nat) × (Nat → Nat) × (Nat → Nat)) => match zu with | (fa2, sg2, nx2, ti2, fx2) => r = oI (if lnF u le ey 0 x = 0 then 0 else lnF u le ey 0 x + 1) ∧ FT u le ey fx2 ti2 ey 0) (fun (zu : (Nat → Nat) × (Nat → Nat) × (Nat → Nat) × (Nat → Nat) × (Nat → Nat)) => match zu with | (fa2, sg2, nx2, ti2, fx2) => [oM b st tp bt (nI ey) (nI le) en (oI wo), aI cI (b 4) 1920 gr, aI cI (b 5) 1920 sp, aI cI (b 8) 8 (oF fa2), aI cI (b 9) 8 (nF sg2), aI cI (b 10) 8 (oF nx2), aI cI (b 11) 64 (nF ti2), aI cI (b 12) 64 (oF fx2), aI cI (b 13) 8 (nF (if lnF u le ey 0 x = 0 then wy else pfx (wyF u le ey (lnF u le ey 0) (wdF u le ey 0) x) wy (lnF u le ey 0 x)))])) ([.ref (b 0), .int (nI x)] : List Value).toArray s 0 0 A) (F0 mt 35 ls []) := by
      intro nf
      induction nf with
      | zero => intro k h hk hh hfu; exact absurd hfu (Nat.not_lt_zero _)
      | succ nf ih_35 =>
        intro k h hk hh hfu H locs hP hD hS ls hl
        obtain ⟨g1, g2, g3⟩ := wy_ok hc0 lx (k - 1) (by omega)
        have hlt := wy_lt hc0 lx h_x (k := k - 1) (by omega)
        rw [← hh] at g1 g2 g3 hlt
        have fh := (hw_1.1 h hlt).1
        have hf : fa2_1 h ≠ 0 := by omega
        refine lv_iload hx hb dX8_lay_35 (lv_at hl 4 rfl) ?_
        refine lv_aload_n hx hb dX8_lay_37 rfl (lv_at hl 0 rfl) ?_
        refine va_get (D := G) (own := RX8) (ref := "SpotRowsModel") (ci := 8) (v := .ref (b 8)) (C := RX8) (T := TX8) (N := 23) hx hb hts hinX8 hown hK.1 hP 0 rfl rfl 14 (by decide) fl46 (fun _ h9 => h9) rfl dX8_lay_38 ?_
        refine lv_iload_n hx hb dX8_lay_41 rfl (lv_at hl 1 rfl) ?_
        refine ld_oF hx hb hK hP 3 (k := x) rfl (by omega) (by decide) dX8_lay_42 ?_
        refine toi (oI_pos (by first | assumption | omega)) ?_
        refine nv_icmp_gt (tgt := 131) hx hb dX8_lay_43 (by decide) (by omega) (by omega) (fun c_43 => ?_) (fun c_43 => ?_)
        · refine lv_aload_n hx hb dX8_lay_131 rfl (lv_at hl 0 rfl) ?_
          refine va_get (D := G) (own := RX8) (ref := "SpotRowsModel") (ci := 8) (v := .ref (b 8)) (C := RX8) (T := TX8) (N := 23) hx hb hts hinX8 hown hK.1 hP 0 rfl rfl 14 (by decide) fl46 (fun _ h9 => h9) rfl dX8_lay_132 ?_
          refine lv_iload_n hx hb dX8_lay_135 rfl (lv_at hl 1 rfl) ?_
          refine ld_oF hx hb hK hP 3 (k := x) rfl (by omega) (by decide) dX8_lay_136 ?_
          refine toi (oI_pos (by first | assumption | omega)) ?_
          refine lv_iconst (v := nI 1) hx hb dX8_lay_137 (by decide) ?_
          refine lv_iadd hx hb dX8_lay_138 ?_
          refine toi (nI_add (fa2_1 x - 1) 1) ?_
          have hP : va_P G vwCl [oM b st tp bt (nI ey) (nI le) en (oI wo), aI cI (b 4) 1920 gr, aI cI (b 5) 1920 sp, aI cI (b 8) 8 (oF fa2_1), aI cI (b 9) 8 (nF sg2_1), aI cI (b 10) 8 (oF nx2_1), aI cI (b 11) 64 (nF ti2_1), aI cI (b 12) 64 (oF fx2_1), aI cI (b 13) 8 (nF (if lnF u le ey 0 x = 0 then wy else pfx (wyF u le ey (lnF u le ey 0) (wdF u le ey 0) x) wy (lnF u le ey 0 x)))] H := by
            have ew : ([oM b st tp bt (nI ey) (nI le) en (oI wo), aI cI (b 4) 1920 gr, aI cI (b 5) 1920 sp, aI cI (b 8) 8 (oF fa2_1), aI cI (b 9) 8 (nF sg2_1), aI cI (b 10) 8 (oF nx2_1), aI cI (b 11) 64 (nF ti2_1), aI cI (b 12) 64 (oF fx2_1), aI cI (b 13) 8 (nF (pfx (wyF u le ey (lnF u le ey 0) (wdF u le ey 0) x) wy k))] : va_W) = [oM b st tp bt (nI ey) (nI le) en (oI wo), aI cI (b 4) 1920 gr, aI cI (b 5) 1920 sp, aI cI (b 8) 8 (oF fa2_1), aI cI (b 9) 8 (nF sg2_1), aI cI (b 10) 8 (oF nx2_1), aI cI (b 11) 64 (nF ti2_1), aI cI (b 12) 64 (oF fx2_1), aI cI (b 13) 8 (nF (if lnF u le ey 0 x = 0 then wy else pfx (wyF u le ey (lnF u le ey 0) (wdF u le ey 0) x) wy (lnF u le ey 0 x)))] := (wvC rfl (wvC rfl (wvC rfl (wvC rfl (wvC rfl (wvC rfl (wvC rfl (wvC rfl (wvC (congrArg (fun z => aI cI (b 13) 8 (nF z)) (show pfx (wyF u le ey (lnF u le ey 0) (wdF u le ey 0) x) wy k = if lnF u le ey 0 x = 0 then wy else pfx (wyF u le ey (lnF u le ey 0) (wdF u le ey 0) x) wy (lnF u le ey 0 x) from by rw [if_neg lx, show k = lnF u le ey 0 x from by omega])) rfl)))))))))
            rw [← ew]; exact hP
          exact W.iret (v := nI (fa2_1 x - 1 + 1)) hx hb hr (fun zt ht zw => ⟨⟨_, (fa2_1, sg2_1, nx2_1, ti2_1, fx2_1), rfl, ⟨((nI_o (fa2_1 x - 1 + 1)).trans (congrArg oI (show (fa2_1 x - 1 + 1) + 1 = (if lnF u le ey 0 x = 0 then 0 else lnF u le ey 0 x + 1) from by rw [if_neg lx]; omega))), (by exact hw_1.2)⟩, by show va_P _ _ _ zt.heap; rw [ht]; exact hP⟩, by rw [hAe]; exact hS.F ht⟩) hS.2.2 dX8_lay_139
        refine lv_iconst (v := nI 0) hx hb dX8_lay_46 (by decide) ?_
        refine lv_istore (lv' := [(5, .int (nI 0)), (0, .ref (b 0)), (1, .int (nI x)), (2, .int (nI (sg2_1 x))), (3, .int (nI h)), (4, .int (nI k))]) hx hb dX8_lay_47 hl (by decide) rfl (fun ls hl => ?_)
        have lp_49 : ∀ (nf : Nat) (c : Nat), (c ≤ wyF u le ey (lnF u le ey 0) (wdF u le ey 0) x k) → wyF u le ey (lnF u le ey 0) (wdF u le ey 0) x k - c < nf → ∀ (H : Heap) (locs : List Loc), va_P G vwCl [oM b st tp bt (nI ey) (nI le) en (oI wo), aI cI (b 4) 1920 gr, aI cI (b 5) 1920 sp, aI cI (b 8) 8 (oF fa2_1), aI cI (b 9) 8 (nF sg2_1), aI cI (b 10) 8 (oF nx2_1), aI cI (b 11) 64 (nF ti2_1), aI cI (b 12) 64 (oF fx2_1), aI cI (b 13) 8 (nF (pfx (wyF u le ey (lnF u le ey 0) (wdF u le ey 0) x) wy k))] H → va_D A [oM b st tp bt (nI ey) (nI le) en (oI wo), aI cI (b 4) 1920 gr, aI cI (b 5) 1920 sp, aI cI (b 8) 8 (oF fa2_1), aI cI (b 9) 8 (nF sg2_1), aI cI (b 10) 8 (oF nx2_1), aI cI (b 11) 64 (nF ti2_1), aI cI (b 12) 64 (oF fx2_1), aI cI (b 13) 8 (nF (pfx (wyF u le ey (lnF u le ey 0) (wdF u le ey 0) x) wy k))] → va_S A s.heap H locs → ∀ (ls : Array Slot), lv_has ls 6 [(0, .ref (b 0)), (1, .int (nI x)), (2, .int (nI (sg2_1 x))), (3, .int (nI h)), (4, .int (nI k)), (5, .int (nI c))] → W pg l ev (headSpec wsX8_lay ({ frames := 5, cells := 0, slots := 0, locals := 119 })).room s mt ([.ref (b 0), .int (nI x)] : List Value).toArray below meth cd H locs 0 0 (MQ below (rwQi G [oM b st tp bt (nI ey) (nI le) en (oI wo), aI cI (b 4) 1920 gr, aI cI (b 5) 1920 sp, aI cI (b 8) 8 (oF fa), aI cI (b 9) 8 (nF sg), aI cI (b 10) 8 (oF nx), aI cI (b 11) 64 (nF ti), aI cI (b 12) 64 (oF fx), aI cI (b 13) 8 (nF wy)] (fun (r : Int32) (zu : (Nat → Nat) × (Nat → Nat) × (Nat → Nat) × (Nat → Nat) × (Nat → Nat)) => match zu with | (fa2, sg2, nx2, ti2, fx2) => r = oI (if lnF u le ey 0 x = 0 then 0 else lnF u le ey 0 x + 1) ∧ FT u le ey fx2 ti2 ey 0) (fun (zu : (Nat → Nat) × (Nat → Nat) × (Nat → Nat) × (Nat → Nat) × (Nat → Nat)) => match zu with | (fa2, sg2, nx2, ti2, fx2) => [oM b st tp bt (nI ey) (nI le) en (oI wo), aI cI (b 4) 1920 gr, aI cI (b 5) 1920 sp, aI cI (b 8) 8 (oF fa2), aI cI (b 9) 8 (nF sg2), aI cI (b 10) 8 (oF nx2), aI cI (b 11) 64 (nF ti2), aI cI (b 12) 64 (oF fx2), aI cI (b 13) 8 (nF (if lnF u le ey 0 x = 0 then wy else pfx (wyF u le ey (lnF u le ey 0) (wdF u le ey 0) x) wy (lnF u le ey 0 x)))])) ([.ref (b 0), .int (nI x)] : List Value).toArray s 0 0 A) (F0 mt 49 ls []) := by
          intro nf
          induction nf with
          | zero => intro c hc hfu; exact absurd hfu (Nat.not_lt_zero _)
          | succ nf ih_49 =>
            intro c hc hfu H locs hP hD hS ls hl
            obtain ⟨n1, n2, n3⟩ := wy_nx hc0 lx (k := k) (by omega)
            rw [← hh] at n1 n3
            have lk_ := lay_ok hw_1.1 hw_1.2 hey h_x hlt (c := c) (by omega) (by omega) (by omega)
            have f1 : fa2_1 c ≤ 8 := by rw [(hw_1.1 c (by omega)).1]; exact hc0.2.2.1 c
            have f2 : sg2_1 c ≤ 241 := by rw [(hw_1.1 c (by omega)).2]; have := hc0.2.2.2.1 c; split <;> omega
            have f3 : ti2_1 (h * 8 + c) ≤ 240 := by rw [(hw_1.2 h c hlt (by omega) (Or.inl hlt)).2]; have := cB_le u h c 240; split <;> omega
            have f4 : fx2_1 (h * 8 + c) ≤ 100001 := by rw [(hw_1.2 h c hlt (by omega) (Or.inl hlt)).1]; have := fc_le u le h c; split <;> omega
            refine lv_aload_n hx hb dX8_lay_49 rfl (lv_at hl 0 rfl) ?_
            refine va_get (D := G) (own := RX8) (ref := "SpotRowsModel") (ci := 8) (v := .ref (b 8)) (C := RX8) (T := TX8) (N := 23) hx hb hts hinX8 hown hK.1 hP 0 rfl rfl 14 (by decide) fl46 (fun _ h9 => h9) rfl dX8_lay_50 ?_
            refine lv_iload hx hb dX8_lay_53 (lv_at hl 5 rfl) ?_
            refine ld_oF hx hb hK hP 3 (k := c) rfl (by omega) (by decide) dX8_lay_55 ?_
            refine lv_aload_n hx hb dX8_lay_56 rfl (lv_at hl 0 rfl) ?_
            refine va_get (D := G) (own := RX8) (ref := "SpotRowsModel") (ci := 8) (v := .ref (b 8)) (C := RX8) (T := TX8) (N := 23) hx hb hts hinX8 hown hK.1 hP 0 rfl rfl 14 (by decide) fl46 (fun _ h9 => h9) rfl dX8_lay_57 ?_
            refine lv_iload_n hx hb dX8_lay_60 rfl (lv_at hl 3 rfl) ?_
            refine ld_oF hx hb hK hP 3 (k := h) rfl (by omega) (by decide) dX8_lay_61 ?_
            refine toi (oI_pos (by first | assumption | omega)) ?_
            refine lv_iconst (v := nI 1) hx hb dX8_lay_62 (by decide) ?_
            refine lv_isub hx hb dX8_lay_63 ?_
            refine toi (pk_sub (a := (fa2_1 h - 1)) (b := 1) (by omega)) ?_
            refine non_icmp_ne (tgt := 107) hx hb dX8_lay_64 (by decide) (by omega) (by omega) (fun c_64 => ?_) (fun c_64 => ?_)
            · have e8 : c ≠ wyF u le ey (lnF u le ey 0) (wdF u le ey 0) x k := (by intro e9; rw [← e9] at n1; obtain ⟨q1, q2, q3⟩ := lk_.mp n1; omega)
              refine lv_iinc (v := nI (c + 1)) (lv' := [(5, .int (nI (c + 1))), (0, .ref (b 0)), (1, .int (nI x)), (2, .int (nI (sg2_1 x))), (3, .int (nI h)), (4, .int (nI k))]) hx hb dX8_lay_107 hl (k := 5) rfl (nI_add c 1) (by decide) rfl (fun ls hl => ?_)
              refine lv_goto (tgt := 49) hx hb dX8_lay_110 (by decide) ?_
              exact ih_49 (c + 1) (by omega) (by omega) H locs hP hD hS ls (lvcv (l := [(0, .ref (b 0)), (1, .int (nI x)), (2, .int (nI (sg2_1 x))), (3, .int (nI h)), (4, .int (nI k)), (5, .int (nI (c + 1)))]) (lv_sub hl [1, 2, 3, 4, 5, 0] rfl) (lvC (lvC (lvC (lvC (lvC (lvC rfl)))))))
            refine lv_aload_n hx hb dX8_lay_67 rfl (lv_at hl 0 rfl) ?_
            refine va_get (D := G) (own := RX8) (ref := "SpotRowsModel") (ci := 8) (v := .ref (b 12)) (C := RX8) (T := TX8) (N := 23) hx hb hts hinX8 hown hK.1 hP 0 rfl rfl 18 (by decide) fl58 (fun _ h9 => h9) rfl dX8_lay_68 ?_
            refine lv_iload_n hx hb dX8_lay_71 rfl (lv_at hl 3 rfl) ?_
            refine lv_iload hx hb dX8_lay_72 (lv_at hl 5 rfl) ?_
            refine cro_i (va_runS (As := [.int (nI h), .int (nI c)]) (rest := [.ref (b 12)]) ⟨hx, hb, hml, hown, hts⟩ (c_X8_pair l G cI cJ (x := h) (y := c) ) (va_cwS 2 hts gX8_lay_X8_pair rfl rfl rfl (by decide +kernel) ⟨Nat.le_of_ble_eq_true rfl, Nat.le_of_ble_eq_true rfl⟩) (preS_ro (wc := []) hK hP [] rfl) rfl rfl hl.1 rfl (lv_room (Nat.le_of_ble_eq_true rfl)) dX8_lay_74 ⟨Nat.zero_le _, Nat.zero_le _⟩) ?_
            refine ld_oF hx hb hK hP 7 (k := h * 8 + c) rfl (by omega) (by decide) dX8_lay_77 ?_
            refine lv_iconst (v := (-1)) hx hb dX8_lay_78 (by decide) ?_
            refine no_icmp_eq (tgt := 107) hx hb dX8_lay_79 (by decide) (by omega) (fun c_79 => ?_) (fun c_79 => ?_)
            · have e8 : c ≠ wyF u le ey (lnF u le ey 0) (wdF u le ey 0) x k := (by intro e9; rw [← e9] at n1; obtain ⟨q1, q2, q3⟩ := lk_.mp n1; omega)
              refine lv_iinc (v := nI (c + 1)) (lv' := [(5, .int (nI (c + 1))), (0, .ref (b 0)), (1, .int (nI x)), (2, .int (nI (sg2_1 x))), (3, .int (nI h)), (4, .int (nI k))]) hx hb dX8_lay_107 hl (k := 5) rfl (nI_add c 1) (by decide) rfl (fun ls hl => ?_)
              refine lv_goto (tgt := 49) hx hb dX8_lay_110 (by decide) ?_
              exact ih_49 (c + 1) (by omega) (by omega) H locs hP hD hS ls (lvcv (l := [(0, .ref (b 0)), (1, .int (nI x)), (2, .int (nI (sg2_1 x))), (3, .int (nI h)), (4, .int (nI k)), (5, .int (nI (c + 1)))]) (lv_sub hl [1, 2, 3, 4, 5, 0] rfl) (lvC (lvC (lvC (lvC (lvC (lvC rfl)))))))
            refine lv_aload_n hx hb dX8_lay_82 rfl (lv_at hl 0 rfl) ?_
            refine va_get (D := G) (own := RX8) (ref := "SpotRowsModel") (ci := 8) (v := .ref (b 9)) (C := RX8) (T := TX8) (N := 23) hx hb hts hinX8 hown hK.1 hP 0 rfl rfl 15 (by decide) fl49 (fun _ h9 => h9) rfl dX8_lay_83 ?_
            refine lv_iload hx hb dX8_lay_86 (lv_at hl 5 rfl) ?_
            refine ld_nF hx hb hK hP 4 (k := c) rfl (by omega) (by decide) dX8_lay_88 ?_
            refine lv_aload_n hx hb dX8_lay_89 rfl (lv_at hl 0 rfl) ?_
            refine va_get (D := G) (own := RX8) (ref := "SpotRowsModel") (ci := 8) (v := .ref (b 11)) (C := RX8) (T := TX8) (N := 23) hx hb hts hinX8 hown hK.1 hP 0 rfl rfl 17 (by decide) fl55 (fun _ h9 => h9) rfl dX8_lay_90 ?_
            refine lv_iload_n hx hb dX8_lay_93 rfl (lv_at hl 3 rfl) ?_
            refine lv_iload hx hb dX8_lay_94 (lv_at hl 5 rfl) ?_
            refine cro_i (va_runS (As := [.int (nI h), .int (nI c)]) (rest := [.ref (b 11), .int (nI (sg2_1 c))]) ⟨hx, hb, hml, hown, hts⟩ (c_X8_pair l G cI cJ (x := h) (y := c) ) (va_cwS 2 hts gX8_lay_X8_pair rfl rfl rfl (by decide +kernel) ⟨Nat.le_of_ble_eq_true rfl, Nat.le_of_ble_eq_true rfl⟩) (preS_ro (wc := []) hK hP [] rfl) rfl rfl hl.1 rfl (lv_room (Nat.le_of_ble_eq_true rfl)) dX8_lay_96 ⟨Nat.zero_le _, Nat.zero_le _⟩) ?_
            refine ld_nF hx hb hK hP 6 (k := h * 8 + c) rfl (by omega) (by decide) dX8_lay_99 ?_
            refine va_mmin hx hb (hml.trans hl.1.symm) (own := RX8) hown (hts (.methodLink RX8 153 Lib.Math.min.name) (by decide +kernel)) (hts (.static Lib.Math.min.name) (by decide +kernel)) (hts (.initialized "java/lang/Math") (by decide +kernel)) (hts (.code Lib.Math.min.name Lib.Math.min.code 2 (some .int)) (by decide +kernel)) (Nat.le_of_ble_eq_true rfl) (Nat.le_of_ble_eq_true rfl) (Nat.zero_le _) (Nat.zero_le _) dX8_lay_100 ?_
            refine toi (minI (by omega) (by omega)) ?_
            refine lv_iload_n hx hb dX8_lay_103 rfl (lv_at hl 2 rfl) ?_
            refine nv_icmp_ge (tgt := 113) hx hb dX8_lay_104 (by decide) (by omega) (by omega) (fun c_104 => ?_) (fun c_104 => ?_)
            · have e8 : c = wyF u le ey (lnF u le ey 0) (wdF u le ey 0) x k := Nat.le_antisymm hc (n3 c (by omega) (lk_.mpr ⟨by omega, c_79, c_104⟩))
              refine lv_aload_n hx hb dX8_lay_113 rfl (lv_at hl 0 rfl) ?_
              refine va_get (D := G) (own := RX8) (ref := "SpotRowsModel") (ci := 8) (v := .ref (b 13)) (C := RX8) (T := TX8) (N := 23) hx hb hts hinX8 hown hK.1 hP 0 rfl rfl 19 (by decide) fl61 (fun _ h9 => h9) rfl dX8_lay_114 ?_
              refine lv_iload hx hb dX8_lay_117 (lv_at hl 4 rfl) ?_
              refine lv_iload hx hb dX8_lay_119 (lv_at hl 5 rfl) ?_
              refine st_nF hx hb hK hP hD hS 8 (k := k) rfl (by omega) (by decide) dX8_lay_121 (fun H locs hP hD hS => ?_)
              have hP : va_P G vwCl [oM b st tp bt (nI ey) (nI le) en (oI wo), aI cI (b 4) 1920 gr, aI cI (b 5) 1920 sp, aI cI (b 8) 8 (oF fa2_1), aI cI (b 9) 8 (nF sg2_1), aI cI (b 10) 8 (oF nx2_1), aI cI (b 11) 64 (nF ti2_1), aI cI (b 12) 64 (oF fx2_1), aI cI (b 13) 8 (nF (upN (pfx (wyF u le ey (lnF u le ey 0) (wdF u le ey 0) x) wy k) k c))] H := hP
              have hD : va_D A [oM b st tp bt (nI ey) (nI le) en (oI wo), aI cI (b 4) 1920 gr, aI cI (b 5) 1920 sp, aI cI (b 8) 8 (oF fa2_1), aI cI (b 9) 8 (nF sg2_1), aI cI (b 10) 8 (oF nx2_1), aI cI (b 11) 64 (nF ti2_1), aI cI (b 12) 64 (oF fx2_1), aI cI (b 13) 8 (nF (upN (pfx (wyF u le ey (lnF u le ey 0) (wdF u le ey 0) x) wy k) k c))] := hD
              refine lv_iload hx hb dX8_lay_122 (lv_at hl 5 rfl) ?_
              refine lv_istore_n (lv' := [(3, .int (nI c)), (0, .ref (b 0)), (1, .int (nI x)), (2, .int (nI (sg2_1 x))), (4, .int (nI k)), (5, .int (nI c))]) hx hb dX8_lay_124 rfl hl (by decide) rfl (fun ls hl => ?_)
              refine lv_iinc (v := nI (k + 1)) (lv' := [(4, .int (nI (k + 1))), (3, .int (nI c)), (0, .ref (b 0)), (1, .int (nI x)), (2, .int (nI (sg2_1 x))), (5, .int (nI c))]) hx hb dX8_lay_125 hl (k := 4) rfl (nI_add k 1) (by decide) rfl (fun ls hl => ?_)
              refine lv_goto (tgt := 35) hx hb dX8_lay_128 (by decide) ?_
              have hw_35 : ([oM b st tp bt (nI ey) (nI le) en (oI wo), aI cI (b 4) 1920 gr, aI cI (b 5) 1920 sp, aI cI (b 8) 8 (oF fa2_1), aI cI (b 9) 8 (nF sg2_1), aI cI (b 10) 8 (oF nx2_1), aI cI (b 11) 64 (nF ti2_1), aI cI (b 12) 64 (oF fx2_1), aI cI (b 13) 8 (nF (upN (pfx (wyF u le ey (lnF u le ey 0) (wdF u le ey 0) x) wy k) k c))] : va_W) = [oM b st tp bt (nI ey) (nI le) en (oI wo), aI cI (b 4) 1920 gr, aI cI (b 5) 1920 sp, aI cI (b 8) 8 (oF fa2_1), aI cI (b 9) 8 (nF sg2_1), aI cI (b 10) 8 (oF nx2_1), aI cI (b 11) 64 (nF ti2_1), aI cI (b 12) 64 (oF fx2_1), aI cI (b 13) 8 (nF (pfx (wyF u le ey (lnF u le ey 0) (wdF u le ey 0) x) wy (k + 1)))] := (wvC rfl (wvC rfl (wvC rfl (wvC rfl (wvC rfl (wvC rfl (wvC rfl (wvC rfl (wvC (congrArg (fun z => aI cI (b 13) 8 (nF z)) (show upN (pfx (wyF u le ey (lnF u le ey 0) (wdF u le ey 0) x) wy k) k c = pfx (wyF u le ey (lnF u le ey 0) (wdF u le ey 0) x) wy (k + 1) from by rw [e8]; exact pfx_s _ _ _)) rfl)))))))))
              exact ih_35 (k + 1) c (by omega) (by rw [Nat.add_sub_cancel]; exact e8) (by omega) H locs (hw_35 ▸ hP) (hw_35 ▸ hD) hS ls (lvcv (l := [(0, .ref (b 0)), (1, .int (nI x)), (2, .int (nI (sg2_1 x))), (3, .int (nI c)), (4, .int (nI (k + 1)))]) (lv_sub hl [2, 3, 4, 1, 0] rfl) (lvC (lvC (lvC (lvC (lvC rfl))))))
            have e8 : c ≠ wyF u le ey (lnF u le ey 0) (wdF u le ey 0) x k := (by intro e9; rw [← e9] at n1; obtain ⟨q1, q2, q3⟩ := lk_.mp n1; omega)
            refine lv_iinc (v := nI (c + 1)) (lv' := [(5, .int (nI (c + 1))), (0, .ref (b 0)), (1, .int (nI x)), (2, .int (nI (sg2_1 x))), (3, .int (nI h)), (4, .int (nI k))]) hx hb dX8_lay_107 hl (k := 5) rfl (nI_add c 1) (by decide) rfl (fun ls hl => ?_)
            refine lv_goto (tgt := 49) hx hb dX8_lay_110 (by decide) ?_
            exact ih_49 (c + 1) (by omega) (by omega) H locs hP hD hS ls (lvcv (l := [(0, .ref (b 0)), (1, .int (nI x)), (2, .int (nI (sg2_1 x))), (3, .int (nI h)), (4, .int (nI k)), (5, .int (nI (c + 1)))]) (lv_sub hl [1, 2, 3, 4, 5, 0] rfl) (lvC (lvC (lvC (lvC (lvC (lvC rfl)))))))
        exact lp_49 (wyF u le ey (lnF u le ey 0) (wdF u le ey 0) x k - 0 + 1) 0 (by omega) (by omega) _ _ hP hD hS ls (lvcv (l := [(0, .ref (b 0)), (1, .int (nI x)), (2, .int (nI (sg2_1 x))), (3, .int (nI h)), (4, .int (nI k)), (5, .int (nI 0))]) (lv_sub hl [1, 2, 3, 4, 5, 0] rfl) (lvC (lvC (lvC (lvC (lvC (lvC rfl)))))))
    have hw_35 : ([oM b st tp bt (nI ey) (nI le) en (oI wo), aI cI (b 4) 1920 gr, aI cI (b 5) 1920 sp, aI cI (b 8) 8 (oF fa2_1), aI cI (b 9) 8 (nF sg2_1), aI cI (b 10) 8 (oF nx2_1), aI cI (b 11) 64 (nF ti2_1), aI cI (b 12) 64 (oF fx2_1), aI cI (b 13) 8 (nF (upN wy 0 x))] : va_W) = [oM b st tp bt (nI ey) (nI le) en (oI wo), aI cI (b 4) 1920 gr, aI cI (b 5) 1920 sp, aI cI (b 8) 8 (oF fa2_1), aI cI (b 9) 8 (nF sg2_1), aI cI (b 10) 8 (oF nx2_1), aI cI (b 11) 64 (nF ti2_1), aI cI (b 12) 64 (oF fx2_1), aI cI (b 13) 8 (nF (pfx (wyF u le ey (lnF u le ey 0) (wdF u le ey 0) x) wy 1))] := (wvC rfl (wvC rfl (wvC rfl (wvC rfl (wvC rfl (wvC rfl (wvC rfl (wvC rfl (wvC (congrArg (fun z => aI cI (b 13) 8 (nF z)) (show upN wy 0 x = pfx (wyF u le ey (lnF u le ey 0) (wdF u le ey 0) x) wy 1 from by (have h9 := pfx_s (wyF u le ey (lnF u le ey 0) (wdF u le ey 0) x) wy 0; rw [pfx_0] at h9; exact h9))) rfl)))))))))
    exact lp_35 (lnF u le ey 0 x - 1 + 1) 1 x (by omega) (by rfl) (by omega) _ _ (hw_35 ▸ hP) (hw_35 ▸ hD) hS ls (lvcv (l := [(0, .ref (b 0)), (1, .int (nI x)), (2, .int (nI (sg2_1 x))), (3, .int (nI x)), (4, .int (nI 1))]) (lv_sub hl [3, 4, 2, 1, 0] rfl) (lvC (lvC (lvC (lvC (lvC rfl))))))
  have fx_ := (hw_1.1 x h_x).1
  have lx : lnF u le ey 0 x = 0 := by omega
  refine lv_iconst (v := (-1)) hx hb dX8_lay_14 (by decide) ?_
  have hP : va_P G vwCl [oM b st tp bt (nI ey) (nI le) en (oI wo), aI cI (b 4) 1920 gr, aI cI (b 5) 1920 sp, aI cI (b 8) 8 (oF fa2_1), aI cI (b 9) 8 (nF sg2_1), aI cI (b 10) 8 (oF nx2_1), aI cI (b 11) 64 (nF ti2_1), aI cI (b 12) 64 (oF fx2_1), aI cI (b 13) 8 (nF (if lnF u le ey 0 x = 0 then wy else pfx (wyF u le ey (lnF u le ey 0) (wdF u le ey 0) x) wy (lnF u le ey 0 x)))] H := by
    have ew : ([oM b st tp bt (nI ey) (nI le) en (oI wo), aI cI (b 4) 1920 gr, aI cI (b 5) 1920 sp, aI cI (b 8) 8 (oF fa2_1), aI cI (b 9) 8 (nF sg2_1), aI cI (b 10) 8 (oF nx2_1), aI cI (b 11) 64 (nF ti2_1), aI cI (b 12) 64 (oF fx2_1), aI cI (b 13) 8 (nF wy)] : va_W) = [oM b st tp bt (nI ey) (nI le) en (oI wo), aI cI (b 4) 1920 gr, aI cI (b 5) 1920 sp, aI cI (b 8) 8 (oF fa2_1), aI cI (b 9) 8 (nF sg2_1), aI cI (b 10) 8 (oF nx2_1), aI cI (b 11) 64 (nF ti2_1), aI cI (b 12) 64 (oF fx2_1), aI cI (b 13) 8 (nF (if lnF u le ey 0 x = 0 then wy else pfx (wyF u le ey (lnF u le ey 0) (wdF u le ey 0) x) wy (lnF u le ey 0 x)))] := (wvC rfl (wvC rfl (wvC rfl (wvC rfl (wvC rfl (wvC rfl (wvC rfl (wvC rfl (wvC (congrArg (fun z => aI cI (b 13) 8 (nF z)) (show wy = if lnF u le ey 0 x = 0 then wy else pfx (wyF u le ey (lnF u le ey 0) (wdF u le ey 0) x) wy (lnF u le ey 0 x) from by rw [if_pos lx])) rfl)))))))))
    rw [← ew]; exact hP
  exact W.iret (v := (-1)) hx hb hr (fun zt ht zw => ⟨⟨_, (fa2_1, sg2_1, nx2_1, ti2_1, fx2_1), rfl, ⟨(m1_o.trans (congrArg oI (show 0 = (if lnF u le ey 0 x = 0 then 0 else lnF u le ey 0 x + 1) from by rw [if_pos lx]))), (by exact hw_1.2)⟩, by show va_P _ _ _ zt.heap; rw [ht]; exact hP⟩, by rw [hAe]; exact hS.F ht⟩) hS.2.2 dX8_lay_15
