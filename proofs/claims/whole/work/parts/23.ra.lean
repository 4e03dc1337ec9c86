set_option maxHeartbeats 400000 in
set_option maxRecDepth 100000 in
theorem c_X2_gather (l : Launch) (G : va_G) (cI cJ : ClassId) (a : Nat → Nat) (mn : Int32) (ey : Int32) (le : Int32) (t : Nat → Nat) (U : Nat → Nat) (L : Nat → Nat) (x : Nat) (y : Nat) (tb : TB t) (h_x : x < 8) (h_y : y < 8) : Met l yX2_gather wsX2_gather ({ frames := 2, cells := 0, slots := 0, locals := 45 }) (rwP G cI cJ [.ref (a 3), .ref (a 2), .int (nI x), .int (nI y)] [oRa a mn, aI cI (a 14) 240 (nF U), aI cI (a 15) 240 (nF L), oTe a ey le, aI cI (a 11) 1920 (oF t)]) (rwQv G [oRa a mn, aI cI (a 14) 240 (nF U), aI cI (a 15) 240 (nF L), oTe a ey le, aI cI (a 11) 1920 (oF t)] (fun (_ : Unit) => True) (fun (_ : Unit) => [oRa a (nI (gC t x y 240)), aI cI (a 14) 240 (nF (gU t x y U 240)), aI cI (a 15) 240 (nF (gL t x y L 240)), oTe a ey le, aI cI (a 11) 1920 (oF t)])) 0 0 (ads [oRa a mn, aI cI (a 14) 240 (nF U), aI cI (a 15) 240 (nF L), oTe a ey le, aI cI (a 11) 1920 (oF t)]) := by
  refine Met.ofW (cc := cX2_gather) (maxL := 5) (ret := none) (by decide) rfl ?_
  intro pg ev s mt args below meth cd s₁ B hml hv
  obtain ⟨rfl, hP, hD0, hK⟩ := hv
  have hx := B.exec
  have hb := B.bytes
  have hr := B.returns
  have hts := atoms_spec (ws := wsX2_gather) B.pre
  have hown : s.vm.findClass RX2 = some mt.cls := findClass_of_methodNamed B.named
  have hlocks := B.notSynchronized
  have hD := ads_self hD0
  generalize hAe : ads [oRa a mn, aI cI (a 14) 240 (nF U), aI cI (a 15) 240 (nF L), oTe a ey le, aI cI (a 11) 1920 (oF t)] = A at hD ⊢
  have hS : va_S A s.heap s.heap [] := va_S.rf
  have hP : va_P G vwCl [oRa a mn, aI cI (a 14) 240 (nF U), aI cI (a 15) 240 (nF L), oTe a ey le, aI cI (a 11) 1920 (oF t)] s.heap := hP
  have hinX2 := (show ∀ w ∈ u_ws RX2 TX2 3, w ∈ wsX2_gather by decide +kernel)
  have fl18 := hts (.fieldLink RX2 18 "SpotRows$Ratios" "many" "I") (by decide +kernel)
  have fl9 := hts (.fieldLink RX2 9 "SpotRows$Ratios" "uppers" "[I") (by decide +kernel)
  have fl15 := hts (.fieldLink RX2 15 "SpotRows$Ratios" "lowers" "[I") (by decide +kernel)
  have hl := lv_entry ([.ref (a 3), .ref (a 2), .int (nI x), .int (nI y)]) (n := 5) (Nat.le_of_ble_eq_true rfl)
  rw [lg_entry_eq]
  generalize (lg_sl ([.ref (a 3), .ref (a 2), .int (nI x), .int (nI y)]) ++ List.replicate (5 - (lg_sl ([.ref (a 3), .ref (a 2), .int (nI x), .int (nI y)])).length) Slot.unset).toArray = ls at hl ⊢
  have hl : lv_has ls 5 [(0, .ref (a 3)), (1, .ref (a 2)), (2, .int (nI x)), (3, .int (nI y))] := hl
  refine lv_aload_n hx hb dX2_gather_0 rfl (lv_at hl 0 rfl) ?_
  refine lv_iconst (v := nI 0) hx hb dX2_gather_1 (by decide) ?_
  refine va_put (D := G) (own := RX2) (ref := "SpotRows$Ratios") (ci := 2) (v := .int (nI 0)) (ty := .int) (C := RX2) (T := TX2) (N := 3) hx hb hts hinX2 tyX2 tyX2_ok nmX2 hown hK.1 hP hD hS 0 rfl rfl 2 (by decide) fl18 (fun _ h9 => h9) rfl (by decide +kernel) rfl rfl (Nat.le_of_ble_eq_true rfl) dX2_gather_2 (fun H locs hP hD hS => ?_)
  have hP : va_P G vwCl [oRa a (nI 0), aI cI (a 14) 240 (nF U), aI cI (a 15) 240 (nF L), oTe a ey le, aI cI (a 11) 1920 (oF t)] H := hP
  have hD : va_D A [oRa a (nI 0), aI cI (a 14) 240 (nF U), aI cI (a 15) 240 (nF L), oTe a ey le, aI cI (a 11) 1920 (oF t)] := hD
  refine lv_iconst (v := nI 0) hx hb dX2_gather_5 (by decide) ?_
  refine lv_istore (lv' := [(4, .int (nI 0)), (0, .ref (a 3)), (1, .ref (a 2)), (2, .int (nI x)), (3, .int (nI y))]) hx hb dX2_gather_6 hl (by decide) rfl (fun ls hl => ?_)
  have lp_8 : ∀ (nf : Nat) (k : Nat), (k ≤ 240) → 240 - k < nf → ∀ (H : Heap) (locs : List Loc), va_P G vwCl [oRa a (nI (gC t x y k)), aI cI (a 14) 240 (nF (gU t x y U k)), aI cI (a 15) 240 (nF (gL t x y L k)), oTe a ey le, aI cI (a 11) 1920 (oF t)] H → va_D A [oRa a (nI (gC t x y k)), aI cI (a 14) 240 (nF (gU t x y U k)), aI cI (a 15) 240 (nF (gL t x y L k)), oTe a ey le, aI cI (a 11) 1920 (oF t)] → va_S A s.heap H locs → ∀ (ls : Array Slot), lv_has ls 5 [(0, .ref (a 3)), (1, .ref (a 2)), (2, .int (nI x)), (3, .int (nI y)), (4, .int (nI k))] → W pg l ev (headSpec wsX2_gather ({ frames := 2, cells := 0, slots := 0, locals := 45 })).room s mt ([.ref (a 3), .ref (a 2), .int (nI x), .int (nI y)] : List Value).toArray below meth cd H locs 0 0 (MQ below (rwQv G [oRa a mn, aI cI (a 14) 240 (nF U), aI cI (a 15) 240 (nF L), oTe a ey le, aI cI (a 11) 1920 (oF t)] (fun (_ : Unit) => True) (fun (_ : Unit) => [oRa a (nI (gC t x y 240)), aI cI (a 14) 240 (nF (gU t x y U 240)), aI cI (a 15) 240 (nF (gL t x y L 240)), oTe a ey le, aI cI (a 11) 1920 (oF t)])) ([.ref (a 3), .ref (a 2), .int (nI x), .int (nI y)] : List Value).toArray s 0 0 A) (F0 mt 8 ls []) := by
    intro nf
    induction nf with
    | zero => intro k hk hfu; exact absurd hfu (Nat.not_lt_zero _)
    | succ nf ih_8 =>
      intro k hk hfu H locs hP hD hS ls hl
      have f1 := gC_le t x y k
      have f2 := num_le tb (x * 240 + k)
      have f3 := num_le tb (y * 240 + k)
      refine lv_iload hx hb dX2_gather_8 (lv_at hl 4 rfl) ?_
      refine lv_sipush (v := nI 240) hx hb dX2_gather_10 (by decide) ?_
      refine nv_icmp_ge (tgt := 85) hx hb dX2_gather_13 (by decide) (by omega) (by omega) (fun c_13 => ?_) (fun c_13 => ?_)
      · have hP : va_P G vwCl [oRa a (nI (gC t x y 240)), aI cI (a 14) 240 (nF (gU t x y U 240)), aI cI (a 15) 240 (nF (gL t x y L 240)), oTe a ey le, aI cI (a 11) 1920 (oF t)] H := by
          have ew : ([oRa a (nI (gC t x y k)), aI cI (a 14) 240 (nF (gU t x y U k)), aI cI (a 15) 240 (nF (gL t x y L k)), oTe a ey le, aI cI (a 11) 1920 (oF t)] : va_W) = [oRa a (nI (gC t x y 240)), aI cI (a 14) 240 (nF (gU t x y U 240)), aI cI (a 15) 240 (nF (gL t x y L 240)), oTe a ey le, aI cI (a 11) 1920 (oF t)] := (wvC (congrArg (fun zz => oRa a zz) (show nI (gC t x y k) = nI (gC t x y 240) from (congrArg nI (show (gC t x y k) = (gC t x y 240) from by rw [show k = 240 from by omega])))) (wvC (congrArg (fun z => aI cI (a 14) 240 (nF z)) (show gU t x y U k = gU t x y U 240 from by rw [show k = 240 from by omega])) (wvC (congrArg (fun z => aI cI (a 15) 240 (nF z)) (show gL t x y L k = gL t x y L 240 from by rw [show k = 240 from by omega])) (wvC rfl (wvC rfl rfl)))))
          rw [← ew]; exact hP
        exact W.vret hx hb hr (fun zt ht zw => ⟨⟨(), rfl, trivial, by show va_P _ _ _ zt.heap; rw [ht]; exact hP⟩, by rw [hAe]; exact hS.F ht⟩) hS.2.2 dX2_gather_85
      refine lv_aload_n hx hb dX2_gather_16 rfl (lv_at hl 1 rfl) ?_
      refine lv_iload_n hx hb dX2_gather_17 rfl (lv_at hl 2 rfl) ?_
      refine lv_iload_n hx hb dX2_gather_18 rfl (lv_at hl 3 rfl) ?_
      refine lv_iload hx hb dX2_gather_19 (lv_at hl 4 rfl) ?_
      refine cro_i (va_runV (As := [.int (nI x), .int (nI y), .int (nI k)]) (rest := []) ⟨hx, hb, hml, hown, hts⟩ (c_X5_haveBoth l G cI cJ (a := a) (ey := ey) (le := le) (t := t) (x := x) (y := y) (d := k) (tb := by first | assumption | omega) (h_x := by first | assumption | omega) (h_y := by first | assumption | omega) (hd := by first | assumption | omega)) (cwV 3 hts gX2_gather_X5_haveBoth rfl rfl rfl (by decide +kernel) ⟨Nat.le_of_ble_eq_true rfl, Nat.le_of_ble_eq_true rfl⟩) (preV_ro (wc := [oTe a ey le, aI cI (a 11) 1920 (oF t)]) hK hP [3, 4] rfl 5 3 rfl rfl rfl) rfl rfl hl.1 rfl (lv_room (Nat.le_of_ble_eq_true rfl)) dX2_gather_21 ⟨Nat.zero_le _, Nat.zero_le _⟩) ?_
      refine nb_if_eq (tgt := 79) hx hb dX2_gather_24 (by decide) (fun c_24 => ?_) (fun c_24 => ?_)
      · refine lv_iinc (v := nI (k + 1)) (lv' := [(4, .int (nI (k + 1))), (0, .ref (a 3)), (1, .ref (a 2)), (2, .int (nI x)), (3, .int (nI y))]) hx hb dX2_gather_79 hl (k := 4) rfl (nI_add k 1) (by decide) rfl (fun ls hl => ?_)
        refine lv_goto (tgt := 8) hx hb dX2_gather_82 (by decide) ?_
        have hw_8 : ([oRa a (nI (gC t x y k)), aI cI (a 14) 240 (nF (gU t x y U k)), aI cI (a 15) 240 (nF (gL t x y L k)), oTe a ey le, aI cI (a 11) 1920 (oF t)] : va_W) = [oRa a (nI (gC t x y (k + 1))), aI cI (a 14) 240 (nF (gU t x y U (k + 1))), aI cI (a 15) 240 (nF (gL t x y L (k + 1))), oTe a ey le, aI cI (a 11) 1920 (oF t)] := (wvC (congrArg (fun zz => oRa a zz) (show nI (gC t x y k) = nI (gC t x y (k + 1)) from (congrArg nI (show (gC t x y k) = (gC t x y (k + 1)) from by first | exact (gC_n (fun h => c_24 h.1)).symm | exact (gC_n (fun h => absurd h.2 (by omega))).symm | exact (gC_y ⟨c_24, c_34⟩).symm)))) (wvC (congrArg (fun z => aI cI (a 14) 240 (nF z)) (show gU t x y U k = gU t x y U (k + 1) from by first | rw [gU, if_neg (fun h => c_24 h.1)] | rw [gU, if_neg (fun h => absurd h.2 (by omega))] | rw [gU, if_pos ⟨c_24, c_34⟩])) (wvC (congrArg (fun z => aI cI (a 15) 240 (nF z)) (show gL t x y L k = gL t x y L (k + 1) from by first | rw [gL, if_neg (fun h => c_24 h.1)] | rw [gL, if_neg (fun h => absurd h.2 (by omega))] | rw [gL, if_pos ⟨c_24, c_34⟩])) (wvC rfl (wvC rfl rfl)))))
        exact ih_8 (k + 1) (by first | rfl | omega | (simp_all; done)) (by omega) H locs (hw_8 ▸ hP) (hw_8 ▸ hD) hS ls (lvcv (l := [(0, .ref (a 3)), (1, .ref (a 2)), (2, .int (nI x)), (3, .int (nI y)), (4, .int (nI (k + 1)))]) (lv_sub hl [1, 2, 3, 4, 0] rfl) (lvC (lvC (lvC (lvC (lvC rfl))))))
      refine lv_aload_n hx hb dX2_gather_27 rfl (lv_at hl 1 rfl) ?_
      refine lv_iload_n hx hb dX2_gather_28 rfl (lv_at hl 2 rfl) ?_
      refine lv_iload hx hb dX2_gather_29 (lv_at hl 4 rfl) ?_
      refine cro_i (va_runV (As := [.int (nI x), .int (nI k)]) (rest := []) ⟨hx, hb, hml, hown, hts⟩ (c_X5_numberOf l G cI cJ (a := a) (ey := ey) (le := le) (t := t) (e := x) (d := k) (tb := by first | assumption | omega) (he := by first | assumption | omega) (hd := by first | assumption | omega) (hn := c_24.1)) (cwV 2 hts gX2_gather_X5_numberOf rfl rfl rfl (by decide +kernel) ⟨Nat.le_of_ble_eq_true rfl, Nat.le_of_ble_eq_true rfl⟩) (preV_ro (wc := [oTe a ey le, aI cI (a 11) 1920 (oF t)]) hK hP [3, 4] rfl 5 3 rfl rfl rfl) rfl rfl hl.1 rfl (lv_room (Nat.le_of_ble_eq_true rfl)) dX2_gather_31 ⟨Nat.zero_le _, Nat.zero_le _⟩) ?_
      refine nv_if_le (tgt := 79) hx hb dX2_gather_34 (by decide) (by omega) (fun c_34 => ?_) (fun c_34 => ?_)
      · refine lv_iinc (v := nI (k + 1)) (lv' := [(4, .int (nI (k + 1))), (0, .ref (a 3)), (1, .ref (a 2)), (2, .int (nI x)), (3, .int (nI y))]) hx hb dX2_gather_79 hl (k := 4) rfl (nI_add k 1) (by decide) rfl (fun ls hl => ?_)
        refine lv_goto (tgt := 8) hx hb dX2_gather_82 (by decide) ?_
        have hw_8 : ([oRa a (nI (gC t x y k)), aI cI (a 14) 240 (nF (gU t x y U k)), aI cI (a 15) 240 (nF (gL t x y L k)), oTe a ey le, aI cI (a 11) 1920 (oF t)] : va_W) = [oRa a (nI (gC t x y (k + 1))), aI cI (a 14) 240 (nF (gU t x y U (k + 1))), aI cI (a 15) 240 (nF (gL t x y L (k + 1))), oTe a ey le, aI cI (a 11) 1920 (oF t)] := (wvC (congrArg (fun zz => oRa a zz) (show nI (gC t x y k) = nI (gC t x y (k + 1)) from (congrArg nI (show (gC t x y k) = (gC t x y (k + 1)) from by first | exact (gC_n (fun h => c_24 h.1)).symm | exact (gC_n (fun h => absurd h.2 (by omega))).symm | exact (gC_y ⟨c_24, c_34⟩).symm)))) (wvC (congrArg (fun z => aI cI (a 14) 240 (nF z)) (show gU t x y U k = gU t x y U (k + 1) from by first | rw [gU, if_neg (fun h => c_24 h.1)] | rw [gU, if_neg (fun h => absurd h.2 (by omega))] | rw [gU, if_pos ⟨c_24, c_34⟩])) (wvC (congrArg (fun z => aI cI (a 15) 240 (nF z)) (show gL t x y L k = gL t x y L (k + 1) from by first | rw [gL, if_neg (fun h => c_24 h.1)] | rw [gL, if_neg (fun h => absurd h.2 (by omega))] | rw [gL, if_pos ⟨c_24, c_34⟩])) (wvC rfl (wvC rfl rfl)))))
        exact ih_8 (k + 1) (by first | rfl | omega | (simp_all; done)) (by omega) H locs (hw_8 ▸ hP) (hw_8 ▸ hD) hS ls (lvcv (l := [(0, .ref (a 3)), (1, .ref (a 2)), (2, .int (nI x)), (3, .int (nI y)), (4, .int (nI (k + 1)))]) (lv_sub hl [1, 2, 3, 4, 0] rfl) (lvC (lvC (lvC (lvC (lvC rfl))))))
      refine lv_aload_n hx hb dX2_gather_37 rfl (lv_at hl 0 rfl) ?_
      refine va_get (D := G) (own := RX2) (ref := "SpotRows$Ratios") (ci := 2) (v := .ref (a 14)) (C := RX2) (T := TX2) (N := 3) hx hb hts hinX2 hown hK.1 hP 0 rfl rfl 0 (by decide) fl9 (fun _ h9 => h9) rfl dX2_gather_38 ?_
      refine lv_aload_n hx hb dX2_gather_41 rfl (lv_at hl 0 rfl) ?_
      refine va_get (D := G) (own := RX2) (ref := "SpotRows$Ratios") (ci := 2) (v := .int (nI (gC t x y k))) (C := RX2) (T := TX2) (N := 3) hx hb hts hinX2 hown hK.1 hP 0 rfl rfl 2 (by decide) fl18 (fun _ h9 => h9) rfl dX2_gather_42 ?_
      refine lv_aload_n hx hb dX2_gather_45 rfl (lv_at hl 1 rfl) ?_
      refine lv_iload_n hx hb dX2_gather_46 rfl (lv_at hl 3 rfl) ?_
      refine lv_iload hx hb dX2_gather_47 (lv_at hl 4 rfl) ?_
      refine cro_i (va_runV (As := [.int (nI y), .int (nI k)]) (rest := [.int (nI (gC t x y k)), .ref (a 14)]) ⟨hx, hb, hml, hown, hts⟩ (c_X5_numberOf l G cI cJ (a := a) (ey := ey) (le := le) (t := t) (e := y) (d := k) (tb := by first | assumption | omega) (he := by first | assumption | omega) (hd := by first | assumption | omega) (hn := c_24.2)) (cwV 2 hts gX2_gather_X5_numberOf rfl rfl rfl (by decide +kernel) ⟨Nat.le_of_ble_eq_true rfl, Nat.le_of_ble_eq_true rfl⟩) (preV_ro (wc := [oTe a ey le, aI cI (a 11) 1920 (oF t)]) hK hP [3, 4] rfl 5 3 rfl rfl rfl) rfl rfl hl.1 rfl (lv_room (Nat.le_of_ble_eq_true rfl)) dX2_gather_49 ⟨Nat.zero_le _, Nat.zero_le _⟩) ?_
      refine st_nF hx hb hK hP hD hS 1 (k := gC t x y k) rfl (by omega) (by decide) dX2_gather_52 (fun H locs hP hD hS => ?_)
      have hP : va_P G vwCl [oRa a (nI (gC t x y k)), aI cI (a 14) 240 (nF (upN (gU t x y U k) (gC t x y k) (num t (y * 240 + k)))), aI cI (a 15) 240 (nF (gL t x y L k)), oTe a ey le, aI cI (a 11) 1920 (oF t)] H := hP
      have hD : va_D A [oRa a (nI (gC t x y k)), aI cI (a 14) 240 (nF (upN (gU t x y U k) (gC t x y k) (num t (y * 240 + k)))), aI cI (a 15) 240 (nF (gL t x y L k)), oTe a ey le, aI cI (a 11) 1920 (oF t)] := hD
      refine lv_aload_n hx hb dX2_gather_53 rfl (lv_at hl 0 rfl) ?_
      refine va_get (D := G) (own := RX2) (ref := "SpotRows$Ratios") (ci := 2) (v := .ref (a 15)) (C := RX2) (T := TX2) (N := 3) hx hb hts hinX2 hown hK.1 hP 0 rfl rfl 1 (by decide) fl15 (fun _ h9 => h9) rfl dX2_gather_54 ?_
      refine lv_aload_n hx hb dX2_gather_57 rfl (lv_at hl 0 rfl) ?_
      refine va_get (D := G) (own := RX2) (ref := "SpotRows$Ratios") (ci := 2) (v := .int (nI (gC t x y k))) (C := RX2) (T := TX2) (N := 3) hx hb hts hinX2 hown hK.1 hP 0 rfl rfl 2 (by decide) fl18 (fun _ h9 => h9) rfl dX2_gather_58 ?_
      refine lv_aload_n hx hb dX2_gather_61 rfl (lv_at hl 1 rfl) ?_
      refine lv_iload_n hx hb dX2_gather_62 rfl (lv_at hl 2 rfl) ?_
      refine lv_iload hx hb dX2_gather_63 (lv_at hl 4 rfl) ?_
      refine cro_i (va_runV (As := [.int (nI x), .int (nI k)]) (rest := [.int (nI (gC t x y k)), .ref (a 15)]) ⟨hx, hb, hml, hown, hts⟩ (c_X5_numberOf l G cI cJ (a := a) (ey := ey) (le := le) (t := t) (e := x) (d := k) (tb := by first | assumption | omega) (he := by first | assumption | omega) (hd := by first | assumption | omega) (hn := c_24.1)) (cwV 2 hts gX2_gather_X5_numberOf rfl rfl rfl (by decide +kernel) ⟨Nat.le_of_ble_eq_true rfl, Nat.le_of_ble_eq_true rfl⟩) (preV_ro (wc := [oTe a ey le, aI cI (a 11) 1920 (oF t)]) hK hP [3, 4] rfl 5 3 rfl rfl rfl) rfl rfl hl.1 rfl (lv_room (Nat.le_of_ble_eq_true rfl)) dX2_gather_65 ⟨Nat.zero_le _, Nat.zero_le _⟩) ?_
      refine st_nF hx hb hK hP hD hS 2 (k := gC t x y k) rfl (by omega) (by decide) dX2_gather_68 (fun H locs hP hD hS => ?_)
      have hP : va_P G vwCl [oRa a (nI (gC t x y k)), aI cI (a 14) 240 (nF (upN (gU t x y U k) (gC t x y k) (num t (y * 240 + k)))), aI cI (a 15) 240 (nF (upN (gL t x y L k) (gC t x y k) (num t (x * 240 + k)))), oTe a ey le, aI cI (a 11) 1920 (oF t)] H := hP
      have hD : va_D A [oRa a (nI (gC t x y k)), aI cI (a 14) 240 (nF (upN (gU t x y U k) (gC t x y k) (num t (y * 240 + k)))), aI cI (a 15) 240 (nF (upN (gL t x y L k) (gC t x y k) (num t (x * 240 + k)))), oTe a ey le, aI cI (a 11) 1920 (oF t)] := hD
      refine lv_aload_n hx hb dX2_gather_69 rfl (lv_at hl 0 rfl) ?_
      refine lv_dup hx hb dX2_gather_70 rfl ?_
      refine va_get (D := G) (own := RX2) (ref := "SpotRows$Ratios") (ci := 2) (v := .int (nI (gC t x y k))) (C := RX2) (T := TX2) (N := 3) hx hb hts hinX2 hown hK.1 hP 0 rfl rfl 2 (by decide) fl18 (fun _ h9 => h9) rfl dX2_gather_71 ?_
      refine lv_iconst (v := nI 1) hx hb dX2_gather_74 (by decide) ?_
      refine lv_iadd hx hb dX2_gather_75 ?_
      refine toi (nI_add (gC t x y k) 1) ?_
      refine va_put (D := G) (own := RX2) (ref := "SpotRows$Ratios") (ci := 2) (v := .int (nI (gC t x y k + 1))) (ty := .int) (C := RX2) (T := TX2) (N := 3) hx hb hts hinX2 tyX2 tyX2_ok nmX2 hown hK.1 hP hD hS 0 rfl rfl 2 (by decide) fl18 (fun _ h9 => h9) rfl (by decide +kernel) rfl rfl (Nat.le_of_ble_eq_true rfl) dX2_gather_76 (fun H locs hP hD hS => ?_)
      have hP : va_P G vwCl [oRa a (nI (gC t x y k + 1)), aI cI (a 14) 240 (nF (upN (gU t x y U k) (gC t x y k) (num t (y * 240 + k)))), aI cI (a 15) 240 (nF (upN (gL t x y L k) (gC t x y k) (num t (x * 240 + k)))), oTe a ey le, aI cI (a 11) 1920 (oF t)] H := hP
      have hD : va_D A [oRa a (nI (gC t x y k + 1)), aI cI (a 14) 240 (nF (upN (gU t x y U k) (gC t x y k) (num t (y * 240 + k)))), aI cI (a 15) 240 (nF (upN (gL t x y L k) (gC t x y k) (num t (x * 240 + k)))), oTe a ey le, aI cI (a 11) 1920 (oF t)] := hD
      refine lv_iinc (v := nI (k + 1)) (lv' := [(4, .int (nI (k + 1))), (0, .ref (a 3)), (1, .ref (a 2)), (2, .int (nI x)), (3, .int (nI y))]) hx hb dX2_gather_79 hl (k := 4) rfl (nI_add k 1) (by decide) rfl (fun ls hl => ?_)
      refine lv_goto (tgt := 8) hx hb dX2_gather_82 (by decide) ?_
      have hw_8 : ([oRa a (nI (gC t x y k + 1)), aI cI (a 14) 240 (nF (upN (gU t x y U k) (gC t x y k) (num t (y * 240 + k)))), aI cI (a 15) 240 (nF (upN (gL t x y L k) (gC t x y k) (num t (x * 240 + k)))), oTe a ey le, aI cI (a 11) 1920 (oF t)] : va_W) = [oRa a (nI (gC t x y (k + 1))), aI cI (a 14) 240 (nF (gU t x y U (k + 1))), aI cI (a 15) 240 (nF (gL t x y L (k + 1))), oTe a ey le, aI cI (a 11) 1920 (oF t)] := (wvC (congrArg (fun zz => oRa a zz) (show nI (gC t x y k + 1) = nI (gC t x y (k + 1)) from (congrArg nI (show (gC t x y k + 1) = (gC t x y (k + 1)) from by first | exact (gC_n (fun h => c_24 h.1)).symm | exact (gC_n (fun h => absurd h.2 (by omega))).symm | exact (gC_y ⟨c_24, c_34⟩).symm)))) (wvC (congrArg (fun z => aI cI (a 14) 240 (nF z)) (show upN (gU t x y U k) (gC t x y k) (num t (y * 240 + k)) = gU t x y U (k + 1) from by first | rw [gU, if_neg (fun h => c_24 h.1)] | rw [gU, if_neg (fun h => absurd h.2 (by omega))] | rw [gU, if_pos ⟨c_24, c_34⟩])) (wvC (congrArg (fun z => aI cI (a 15) 240 (nF z)) (show upN (gL t x y L k) (gC t x y k) (num t (x * 240 + k)) = gL t x y L (k + 1) from by first | rw [gL, if_neg (fun h => c_24 h.1)] | rw [gL, if_neg (fun h => absurd h.2 (by omega))] | rw [gL, if_pos ⟨c_24, c_34⟩])) (wvC rfl (wvC rfl rfl)))))
      exact ih_8 (k + 1) (by first | rfl | omega | (simp_all; done)) (by omega) H locs (hw_8 ▸ hP) (hw_8 ▸ hD) hS ls (lvcv (l := [(0, .ref (a 3)), (1, .ref (a 2)), (2, .int (nI x)), (3, .int (nI y)), (4, .int (nI (k + 1)))]) (lv_sub hl [1, 2, 3, 4, 0] rfl) (lvC (lvC (lvC (lvC (lvC rfl))))))
  have hw_8 : ([oRa a (nI 0), aI cI (a 14) 240 (nF U), aI cI (a 15) 240 (nF L), oTe a ey le, aI cI (a 11) 1920 (oF t)] : va_W) = [oRa a (nI (gC t x y 0)), aI cI (a 14) 240 (nF (gU t x y U 0)), aI cI (a 15) 240 (nF (gL t x y L 0)), oTe a ey le, aI cI (a 11) 1920 (oF t)] := (wvC (congrArg (fun zz => oRa a zz) (show nI 0 = nI (gC t x y 0) from (congrArg nI (show 0 = (gC t x y 0) from by rfl)))) (wvC (congrArg (fun z => aI cI (a 14) 240 (nF z)) (show U = gU t x y U 0 from by rfl)) (wvC (congrArg (fun z => aI cI (a 15) 240 (nF z)) (show L = gL t x y L 0 from by rfl)) (wvC rfl (wvC rfl rfl)))))
  exact lp_8 (240 - 0 + 1) 0 (by first | rfl | omega | (simp_all; done)) (by omega) _ _ (hw_8 ▸ hP) (hw_8 ▸ hD) hS ls (lvcv (l := [(0, .ref (a 3)), (1, .ref (a 2)), (2, .int (nI x)), (3, .int (nI y)), (4, .int (nI 0))]) (lv_sub hl [1, 2, 3, 4, 0] rfl) (lvC (lvC (lvC (lvC (lvC rfl))))))

set_option maxHeartbeats 400000 in
set_option maxRecDepth 100000 in
theorem c_X2_sink (l : Launch) (G : va_G) (cI cJ : ClassId) (a : Nat → Nat) (mn : Int32) (U : Nat → Nat) (L : Nat → Nat) (pl : Nat) (gap : Nat) (hp : pl < 240) (hg : 1 ≤ gap ∧ gap ≤ 121) (hb0 : ∀ j, j ≤ pl → U j ≤ 400 ∧ L j ≤ 400 ∧ 0 < L j) : Met l yX2_sink wsX2_sink ({ frames := 0, cells := 0, slots := 0, locals := 0 }) (rwP G cI cJ [.ref (a 3), .int (nI pl), .int (nI gap)] [oRa a mn, aI cI (a 14) 240 (nF U), aI cI (a 15) 240 (nF L)]) (rwQv G [oRa a mn, aI cI (a 14) 240 (nF U), aI cI (a 15) 240 (nF L)] (fun (u : (Nat → Nat) × (Nat → Nat)) => match u with | (U2, L2) => (∀ n, pl < n → SE U L U2 L2 n) ∧ (gap = 1 → srt U L pl → srt U2 L2 (pl + 1))) (fun (u : (Nat → Nat) × (Nat → Nat)) => match u with | (U2, L2) => [oRa a mn, aI cI (a 14) 240 (nF U2), aI cI (a 15) 240 (nF L2)])) 0 0 (ads [oRa a mn, aI cI (a 14) 240 (nF U), aI cI (a 15) 240 (nF L)]) := by
  refine Met.ofW (cc := cX2_sink) (maxL := 6) (ret := none) (by decide) rfl ?_
  intro pg ev s mt args below meth cd s₁ B hml hv
  obtain ⟨rfl, hP, hD0, hK⟩ := hv
  have hx := B.exec
  have hb := B.bytes
  have hr := B.returns
  have hts := atoms_spec (ws := wsX2_sink) B.pre
  have hown : s.vm.findClass RX2 = some mt.cls := findClass_of_methodNamed B.named
  have hlocks := B.notSynchronized
  have hD := ads_self hD0
  generalize hAe : ads [oRa a mn, aI cI (a 14) 240 (nF U), aI cI (a 15) 240 (nF L)] = A at hD ⊢
  have hS : va_S A s.heap s.heap [] := va_S.rf
  have hP : va_P G vwCl [oRa a mn, aI cI (a 14) 240 (nF U), aI cI (a 15) 240 (nF L)] s.heap := hP
  have hinX2 := (show ∀ w ∈ u_ws RX2 TX2 3, w ∈ wsX2_sink by decide +kernel)
  have fl9 := hts (.fieldLink RX2 9 "SpotRows$Ratios" "uppers" "[I") (by decide +kernel)
  have fl15 := hts (.fieldLink RX2 15 "SpotRows$Ratios" "lowers" "[I") (by decide +kernel)
  have hl := lv_entry ([.ref (a 3), .int (nI pl), .int (nI gap)]) (n := 6) (Nat.le_of_ble_eq_true rfl)
  rw [lg_entry_eq]
  generalize (lg_sl ([.ref (a 3), .int (nI pl), .int (nI gap)]) ++ List.replicate (6 - (lg_sl ([.ref (a 3), .int (nI pl), .int (nI gap)])).length) Slot.unset).toArray = ls at hl ⊢
  have hl : lv_has ls 6 [(0, .ref (a 3)), (1, .int (nI pl)), (2, .int (nI gap))] := hl
  have hbp := hb0 pl (Nat.le_refl pl)
  refine lv_aload_n hx hb dX2_sink_0 rfl (lv_at hl 0 rfl) ?_
  refine va_get (D := G) (own := RX2) (ref := "SpotRows$Ratios") (ci := 2) (v := .ref (a 14)) (C := RX2) (T := TX2) (N := 3) hx hb hts hinX2 hown hK.1 hP 0 rfl rfl 0 (by decide) fl9 (fun _ h9 => h9) rfl dX2_sink_1 ?_
  refine lv_iload_n hx hb dX2_sink_4 rfl (lv_at hl 1 rfl) ?_
  refine ld_nF hx hb hK hP 1 (k := pl) rfl (by omega) (by decide) dX2_sink_5 ?_
  refine lv_istore_n (lv' := [(3, .int (nI (U pl))), (0, .ref (a 3)), (1, .int (nI pl)), (2, .int (nI gap))]) hx hb dX2_sink_6 rfl hl (by decide) rfl (fun ls hl => ?_)
  refine lv_aload_n hx hb dX2_sink_7 rfl (lv_at hl 1 rfl) ?_
  refine va_get (D := G) (own := RX2) (ref := "SpotRows$Ratios") (ci := 2) (v := .ref (a 15)) (C := RX2) (T := TX2) (N := 3) hx hb hts hinX2 hown hK.1 hP 0 rfl rfl 1 (by decide) fl15 (fun _ h9 => h9) rfl dX2_sink_8 ?_
  refine lv_iload_n hx hb dX2_sink_11 rfl (lv_at hl 2 rfl) ?_
  refine ld_nF hx hb hK hP 2 (k := pl) rfl (by omega) (by decide) dX2_sink_12 ?_
  refine lv_istore (lv' := [(4, .int (nI (L pl))), (3, .int (nI (U pl))), (0, .ref (a 3)), (1, .int (nI pl)), (2, .int (nI gap))]) hx hb dX2_sink_13 hl (by decide) rfl (fun ls hl => ?_)
  refine lv_iload_n hx hb dX2_sink_15 rfl (lv_at hl 3 rfl) ?_
  refine lv_istore (lv' := [(5, .int (nI pl)), (4, .int (nI (L pl))), (3, .int (nI (U pl))), (0, .ref (a 3)), (1, .int (nI pl)), (2, .int (nI gap))]) hx hb dX2_sink_16 hl (by decide) rfl (fun ls hl => ?_)
  have lp_18 : ∀ (nf : Nat) (k : Nat) (V : Nat → Nat) (N : Nat → Nat), (k ≤ pl) → (∀ n, pl < n → SE U L (upN V k (U pl)) (upN N k (L pl)) n) → (∀ j, j ≤ pl → V j ≤ 400 ∧ N j ≤ 400 ∧ 0 < N j) → (gap = 1 → srt U L pl → hol V N (U pl) (L pl) k pl) → k < nf → ∀ (H : Heap) (locs : List Loc), va_P G vwCl [oRa a mn, aI cI (a 14) 240 (nF V), aI cI (a 15) 240 (nF N)] H → va_D A [oRa a mn, aI cI (a 14) 240 (nF V), aI cI (a 15) 240 (nF N)] → va_S A s.heap H locs → ∀ (ls : Array Slot), lv_has ls 6 [(0, .ref (a 3)), (1, .int (nI pl)), (2, .int (nI gap)), (3, .int (nI (U pl))), (4, .int (nI (L pl))), (5, .int (nI k))] → W pg l ev (headSpec wsX2_sink ({ frames := 0, cells := 0, slots := 0, locals := 0 })).room s mt ([.ref (a 3), .int (nI pl), .int (nI gap)] : List Value).toArray below meth cd H locs 0 0 (MQ below (rwQv G [oRa a mn, aI cI (a 14) 240 (nF U), aI cI (a 15) 240 (nF L)] (fun (u : (Nat → Nat) × (Nat → Nat)) => match u with | (U2, L2) => (∀ n, pl < n → SE U L U2 L2 n) ∧ (gap = 1 → srt U L pl → srt U2 L2 (pl + 1))) (fun (u : (Nat → Nat) × (Nat → Nat)) => match u with | (U2, L2) => [oRa a mn, aI cI (a 14) 240 (nF U2), aI cI (a 15) 240 (nF L2)])) ([.ref (a 3), .int (nI pl), .int (nI gap)] : List Value).toArray s 0 0 A) (F0 mt 18 ls []) := by
    intro nf
    induction nf with
    | zero => intro k V N hk hse hb1 hh hfu; exact absurd hfu (Nat.not_lt_zero _)
    | succ nf ih_18 =>
      intro k V N hk hse hb1 hh hfu H locs hP hD hS ls hl
      refine lv_iload hx hb dX2_sink_18 (lv_at hl 5 rfl) ?_
      refine lv_iload_n hx hb dX2_sink_20 rfl (lv_at hl 2 rfl) ?_
      refine nv_icmp_lt (tgt := 91) hx hb dX2_sink_21 (by decide) (by omega) (by omega) (fun c_21 => ?_) (fun c_21 => ?_)
      · refine lv_aload_n hx hb dX2_sink_91 rfl (lv_at hl 0 rfl) ?_
        refine va_get (D := G) (own := RX2) (ref := "SpotRows$Ratios") (ci := 2) (v := .ref (a 14)) (C := RX2) (T := TX2) (N := 3) hx hb hts hinX2 hown hK.1 hP 0 rfl rfl 0 (by decide) fl9 (fun _ h9 => h9) rfl dX2_sink_92 ?_
        refine lv_iload hx hb dX2_sink_95 (lv_at hl 5 rfl) ?_
        refine lv_iload_n hx hb dX2_sink_97 rfl (lv_at hl 3 rfl) ?_
        refine st_nF hx hb hK hP hD hS 1 (k := k) rfl (by omega) (by decide) dX2_sink_98 (fun H locs hP hD hS => ?_)
        have hP : va_P G vwCl [oRa a mn, aI cI (a 14) 240 (nF (upN V k (U pl))), aI cI (a 15) 240 (nF N)] H := hP
        have hD : va_D A [oRa a mn, aI cI (a 14) 240 (nF (upN V k (U pl))), aI cI (a 15) 240 (nF N)] := hD
        refine lv_aload_n hx hb dX2_sink_99 rfl (lv_at hl 0 rfl) ?_
        refine va_get (D := G) (own := RX2) (ref := "SpotRows$Ratios") (ci := 2) (v := .ref (a 15)) (C := RX2) (T := TX2) (N := 3) hx hb hts hinX2 hown hK.1 hP 0 rfl rfl 1 (by decide) fl15 (fun _ h9 => h9) rfl dX2_sink_100 ?_
        refine lv_iload hx hb dX2_sink_103 (lv_at hl 5 rfl) ?_
        refine lv_iload hx hb dX2_sink_105 (lv_at hl 4 rfl) ?_
        refine st_nF hx hb hK hP hD hS 2 (k := k) rfl (by omega) (by decide) dX2_sink_107 (fun H locs hP hD hS => ?_)
        have hP : va_P G vwCl [oRa a mn, aI cI (a 14) 240 (nF (upN V k (U pl))), aI cI (a 15) 240 (nF (upN N k (L pl)))] H := hP
        have hD : va_D A [oRa a mn, aI cI (a 14) 240 (nF (upN V k (U pl))), aI cI (a 15) 240 (nF (upN N k (L pl)))] := hD
        exact W.vret hx hb hr (fun zt ht zw => ⟨⟨(upN V k (U pl), upN N k (L pl)), rfl, (by first | exact ⟨hse, fun h1 h2 => hol_e hk (fun j hj => (hb1 j hj).2.2) (hh h1 h2) (Or.inl (by omega))⟩ | exact ⟨hse, fun h1 h2 => hol_e hk (fun j hj => (hb1 j hj).2.2) (hh h1 h2) (Or.inr (by subst h1; exact c_47))⟩), by show va_P _ _ _ zt.heap; rw [ht]; exact hP⟩, by rw [hAe]; exact hS.F ht⟩) hS.2.2 dX2_sink_108
      have b1 := hb1 (k - gap) (by omega)
      have m1 := mul400 hbp.1 b1.2.1
      have m2 := mul400 b1.1 hbp.2.1
      refine lv_iload_n hx hb dX2_sink_24 rfl (lv_at hl 3 rfl) ?_
      refine lv_aload_n hx hb dX2_sink_25 rfl (lv_at hl 0 rfl) ?_
      refine va_get (D := G) (own := RX2) (ref := "SpotRows$Ratios") (ci := 2) (v := .ref (a 15)) (C := RX2) (T := TX2) (N := 3) hx hb hts hinX2 hown hK.1 hP 0 rfl rfl 1 (by decide) fl15 (fun _ h9 => h9) rfl dX2_sink_26 ?_
      refine lv_iload hx hb dX2_sink_29 (lv_at hl 5 rfl) ?_
      refine lv_iload_n hx hb dX2_sink_31 rfl (lv_at hl 2 rfl) ?_
      refine lv_isub hx hb dX2_sink_32 ?_
      refine toi (pk_sub (a := k) (b := gap) (by omega)) ?_
      refine ld_nF hx hb hK hP 2 (k := k - gap) rfl (by omega) (by decide) dX2_sink_33 ?_
      refine lv_imul hx hb dX2_sink_34 ?_
      refine toi (pk_mul (U pl) (N (k - gap))) ?_
      refine lv_aload_n hx hb dX2_sink_35 rfl (lv_at hl 0 rfl) ?_
      refine va_get (D := G) (own := RX2) (ref := "SpotRows$Ratios") (ci := 2) (v := .ref (a 14)) (C := RX2) (T := TX2) (N := 3) hx hb hts hinX2 hown hK.1 hP 0 rfl rfl 0 (by decide) fl9 (fun _ h9 => h9) rfl dX2_sink_36 ?_
      refine lv_iload hx hb dX2_sink_39 (lv_at hl 5 rfl) ?_
      refine lv_iload_n hx hb dX2_sink_41 rfl (lv_at hl 2 rfl) ?_
      refine lv_isub hx hb dX2_sink_42 ?_
      refine toi (pk_sub (a := k) (b := gap) (by omega)) ?_
      refine ld_nF hx hb hK hP 1 (k := k - gap) rfl (by omega) (by decide) dX2_sink_43 ?_
      refine lv_iload hx hb dX2_sink_44 (lv_at hl 4 rfl) ?_
      refine lv_imul hx hb dX2_sink_46 ?_
      refine toi (pk_mul (V (k - gap)) (L pl)) ?_
      refine nv_icmp_ge (tgt := 91) hx hb dX2_sink_47 (by decide) (by omega) (by omega) (fun c_47 => ?_) (fun c_47 => ?_)
      · refine lv_aload_n hx hb dX2_sink_91 rfl (lv_at hl 0 rfl) ?_
        refine va_get (D := G) (own := RX2) (ref := "SpotRows$Ratios") (ci := 2) (v := .ref (a 14)) (C := RX2) (T := TX2) (N := 3) hx hb hts hinX2 hown hK.1 hP 0 rfl rfl 0 (by decide) fl9 (fun _ h9 => h9) rfl dX2_sink_92 ?_
        refine lv_iload hx hb dX2_sink_95 (lv_at hl 5 rfl) ?_
        refine lv_iload_n hx hb dX2_sink_97 rfl (lv_at hl 3 rfl) ?_
        refine st_nF hx hb hK hP hD hS 1 (k := k) rfl (by omega) (by decide) dX2_sink_98 (fun H locs hP hD hS => ?_)
        have hP : va_P G vwCl [oRa a mn, aI cI (a 14) 240 (nF (upN V k (U pl))), aI cI (a 15) 240 (nF N)] H := hP
        have hD : va_D A [oRa a mn, aI cI (a 14) 240 (nF (upN V k (U pl))), aI cI (a 15) 240 (nF N)] := hD
        refine lv_aload_n hx hb dX2_sink_99 rfl (lv_at hl 0 rfl) ?_
        refine va_get (D := G) (own := RX2) (ref := "SpotRows$Ratios") (ci := 2) (v := .ref (a 15)) (C := RX2) (T := TX2) (N := 3) hx hb hts hinX2 hown hK.1 hP 0 rfl rfl 1 (by decide) fl15 (fun _ h9 => h9) rfl dX2_sink_100 ?_
        refine lv_iload hx hb dX2_sink_103 (lv_at hl 5 rfl) ?_
        refine lv_iload hx hb dX2_sink_105 (lv_at hl 4 rfl) ?_
        refine st_nF hx hb hK hP hD hS 2 (k := k) rfl (by omega) (by decide) dX2_sink_107 (fun H locs hP hD hS => ?_)
        have hP : va_P G vwCl [oRa a mn, aI cI (a 14) 240 (nF (upN V k (U pl))), aI cI (a 15) 240 (nF (upN N k (L pl)))] H := hP
        have hD : va_D A [oRa a mn, aI cI (a 14) 240 (nF (upN V k (U pl))), aI cI (a 15) 240 (nF (upN N k (L pl)))] := hD
        exact W.vret hx hb hr (fun zt ht zw => ⟨⟨(upN V k (U pl), upN N k (L pl)), rfl, (by first | exact ⟨hse, fun h1 h2 => hol_e hk (fun j hj => (hb1 j hj).2.2) (hh h1 h2) (Or.inl (by omega))⟩ | exact ⟨hse, fun h1 h2 => hol_e hk (fun j hj => (hb1 j hj).2.2) (hh h1 h2) (Or.inr (by subst h1; exact c_47))⟩), by show va_P _ _ _ zt.heap; rw [ht]; exact hP⟩, by rw [hAe]; exact hS.F ht⟩) hS.2.2 dX2_sink_108
      refine lv_aload_n hx hb dX2_sink_50 rfl (lv_at hl 0 rfl) ?_
      refine va_get (D := G) (own := RX2) (ref := "SpotRows$Ratios") (ci := 2) (v := .ref (a 14)) (C := RX2) (T := TX2) (N := 3) hx hb hts hinX2 hown hK.1 hP 0 rfl rfl 0 (by decide) fl9 (fun _ h9 => h9) rfl dX2_sink_51 ?_
      refine lv_iload hx hb dX2_sink_54 (lv_at hl 5 rfl) ?_
      refine lv_aload_n hx hb dX2_sink_56 rfl (lv_at hl 0 rfl) ?_
      refine va_get (D := G) (own := RX2) (ref := "SpotRows$Ratios") (ci := 2) (v := .ref (a 14)) (C := RX2) (T := TX2) (N := 3) hx hb hts hinX2 hown hK.1 hP 0 rfl rfl 0 (by decide) fl9 (fun _ h9 => h9) rfl dX2_sink_57 ?_
      refine lv_iload hx hb dX2_sink_60 (lv_at hl 5 rfl) ?_
      refine lv_iload_n hx hb dX2_sink_62 rfl (lv_at hl 2 rfl) ?_
      refine lv_isub hx hb dX2_sink_63 ?_
      refine toi (pk_sub (a := k) (b := gap) (by omega)) ?_
      refine ld_nF hx hb hK hP 1 (k := k - gap) rfl (by omega) (by decide) dX2_sink_64 ?_
      refine st_nF hx hb hK hP hD hS 1 (k := k) rfl (by omega) (by decide) dX2_sink_65 (fun H locs hP hD hS => ?_)
      have hP : va_P G vwCl [oRa a mn, aI cI (a 14) 240 (nF (upN V k (V (k - gap)))), aI cI (a 15) 240 (nF N)] H := hP
      have hD : va_D A [oRa a mn, aI cI (a 14) 240 (nF (upN V k (V (k - gap)))), aI cI (a 15) 240 (nF N)] := hD
      refine lv_aload_n hx hb dX2_sink_66 rfl (lv_at hl 0 rfl) ?_
      refine va_get (D := G) (own := RX2) (ref := "SpotRows$Ratios") (ci := 2) (v := .ref (a 15)) (C := RX2) (T := TX2) (N := 3) hx hb hts hinX2 hown hK.1 hP 0 rfl rfl 1 (by decide) fl15 (fun _ h9 => h9) rfl dX2_sink_67 ?_
      refine lv_iload hx hb dX2_sink_70 (lv_at hl 5 rfl) ?_
      refine lv_aload_n hx hb dX2_sink_72 rfl (lv_at hl 0 rfl) ?_
      refine va_get (D := G) (own := RX2) (ref := "SpotRows$Ratios") (ci := 2) (v := .ref (a 15)) (C := RX2) (T := TX2) (N := 3) hx hb hts hinX2 hown hK.1 hP 0 rfl rfl 1 (by decide) fl15 (fun _ h9 => h9) rfl dX2_sink_73 ?_
      refine lv_iload hx hb dX2_sink_76 (lv_at hl 5 rfl) ?_
      refine lv_iload_n hx hb dX2_sink_78 rfl (lv_at hl 2 rfl) ?_
      refine lv_isub hx hb dX2_sink_79 ?_
      refine toi (pk_sub (a := k) (b := gap) (by omega)) ?_
      refine ld_nF hx hb hK hP 2 (k := k - gap) rfl (by omega) (by decide) dX2_sink_80 ?_
      refine st_nF hx hb hK hP hD hS 2 (k := k) rfl (by omega) (by decide) dX2_sink_81 (fun H locs hP hD hS => ?_)
      have hP : va_P G vwCl [oRa a mn, aI cI (a 14) 240 (nF (upN V k (V (k - gap)))), aI cI (a 15) 240 (nF (upN N k (N (k - gap))))] H := hP
      have hD : va_D A [oRa a mn, aI cI (a 14) 240 (nF (upN V k (V (k - gap)))), aI cI (a 15) 240 (nF (upN N k (N (k - gap))))] := hD
      refine lv_iload hx hb dX2_sink_82 (lv_at hl 5 rfl) ?_
      refine lv_iload_n hx hb dX2_sink_84 rfl (lv_at hl 2 rfl) ?_
      refine lv_isub hx hb dX2_sink_85 ?_
      refine toi (pk_sub (a := k) (b := gap) (by omega)) ?_
      refine lv_istore (lv' := [(5, .int (nI (k - gap))), (0, .ref (a 3)), (1, .int (nI pl)), (2, .int (nI gap)), (3, .int (nI (U pl))), (4, .int (nI (L pl)))]) hx hb dX2_sink_86 hl (by decide) rfl (fun ls hl => ?_)
      refine lv_goto (tgt := 18) hx hb dX2_sink_88 (by decide) ?_
      exact ih_18 (k - gap) (upN V k (V (k - gap))) (upN N k (N (k - gap))) (by first | rfl | omega | (simp_all; done)) (by exact fun n hn => sink_SE hg.1 (by omega) (by omega) (hse n hn)) (by exact fun j hj => by unfold upN; split; exact hb1 _ (by omega); exact hb1 j hj) (by intro h1 h2; subst h1; exact hol_s (by omega) hk (hh rfl h2) c_47) (by omega) H locs hP hD hS ls (lvcv (l := [(0, .ref (a 3)), (1, .int (nI pl)), (2, .int (nI gap)), (3, .int (nI (U pl))), (4, .int (nI (L pl))), (5, .int (nI (k - gap)))]) (lv_sub hl [1, 2, 3, 4, 5, 0] rfl) (lvC (lvC (lvC (lvC (lvC (lvC rfl)))))))
  exact lp_18 (pl + 1) pl U L (by first | rfl | omega | (simp_all; done)) (by exact fun n _ => by rw [upN_same rfl, upN_same rfl]; exact SE_rf U L n) (by exact hb0) (by exact fun _ h => hol_0 h) (by omega) _ _ hP hD hS ls (lvcv (l := [(0, .ref (a 3)), (1, .int (nI pl)), (2, .int (nI gap)), (3, .int (nI (U pl))), (4, .int (nI (L pl))), (5, .int (nI pl))]) (lv_sub hl [3, 4, 5, 2, 1, 0] rfl) (lvC (lvC (lvC (lvC (lvC (lvC rfl)))))))

set_option maxHeartbeats 400000 in
set_option maxRecDepth 100000 in
theorem c_X2_order (l : Launch) (G : va_G) (cI cJ : ClassId) (a : Nat → Nat) (n : Nat) (U : Nat → Nat) (L : Nat → Nat) (hn : n ≤ 240) (hb0 : BN U L n) : Met l yX2_order wsX2_order ({ frames := 1, cells := 0, slots := 0, locals := 25 }) (rwP G cI cJ [.ref (a 3)] [oRa a (nI n), aI cI (a 14) 240 (nF U), aI cI (a 15) 240 (nF L)]) (rwQv G [oRa a (nI n), aI cI (a 14) 240 (nF U), aI cI (a 15) 240 (nF L)] (fun (u : (Nat → Nat) × (Nat → Nat)) => match u with | (U2, L2) => SE U L U2 L2 n ∧ srt U2 L2 n) (fun (u : (Nat → Nat) × (Nat → Nat)) => match u with | (U2, L2) => [oRa a (nI n), aI cI (a 14) 240 (nF U2), aI cI (a 15) 240 (nF L2)])) 0 0 (ads [oRa a (nI n), aI cI (a 14) 240 (nF U), aI cI (a 15) 240 (nF L)]) := by
  refine Met.ofW (cc := cX2_order) (maxL := 3) (ret := none) (by decide) rfl ?_
  intro pg ev s mt args below meth cd s₁ B hml hv
  obtain ⟨rfl, hP, hD0, hK⟩ := hv
  have hx := B.exec
  have hb := B.bytes
  have hr := B.returns
  have hts := atoms_spec (ws := wsX2_order) B.pre
  have hown : s.vm.findClass RX2 = some mt.cls := findClass_of_methodNamed B.named
  have hlocks := B.notSynchronized
  have hD := ads_self hD0
  generalize hAe : ads [oRa a (nI n), aI cI (a 14) 240 (nF U), aI cI (a 15) 240 (nF L)] = A at hD ⊢
  have hS : va_S A s.heap s.heap [] := va_S.rf
  have hP : va_P G vwCl [oRa a (nI n), aI cI (a 14) 240 (nF U), aI cI (a 15) 240 (nF L)] s.heap := hP
  have hinX2 := (show ∀ w ∈ u_ws RX2 TX2 3, w ∈ wsX2_order by decide +kernel)
  have fl18 := hts (.fieldLink RX2 18 "SpotRows$Ratios" "many" "I") (by decide +kernel)
  have hl := lv_entry ([.ref (a 3)]) (n := 3) (Nat.le_of_ble_eq_true rfl)
  rw [lg_entry_eq]
  generalize (lg_sl ([.ref (a 3)]) ++ List.replicate (3 - (lg_sl ([.ref (a 3)])).length) Slot.unset).toArray = ls at hl ⊢
  have hl : lv_has ls 3 [(0, .ref (a 3))] := hl
  refine lv_bipush (v := nI 121) hx hb dX2_order_0 (by decide) ?_
  refine lv_istore_n (lv' := [(1, .int (nI 121)), (0, .ref (a 3))]) hx hb dX2_order_2 rfl hl (by decide) rfl (fun ls hl => ?_)
  have lp_3 : ∀ (nf : Nat) (g : Nat) (V : Nat → Nat) (N : Nat → Nat), (g = 121 ∨ g = 40 ∨ g = 13 ∨ g = 4 ∨ g = 1 ∨ g = 0) → (SE U L V N n) → (g = 0 → srt V N n) → g < nf → ∀ (H : Heap) (locs : List Loc), va_P G vwCl [oRa a (nI n), aI cI (a 14) 240 (nF V), aI cI (a 15) 240 (nF N)] H → va_D A [oRa a (nI n), aI cI (a 14) 240 (nF V), aI cI (a 15) 240 (nF N)] → va_S A s.heap H locs → ∀ (ls : Array Slot), lv_has ls 3 [(0, .ref (a 3)), (1, .int (nI g))] → W pg l ev (headSpec wsX2_order ({ frames := 1, cells := 0, slots := 0, locals := 25 })).room s mt ([.ref (a 3)] : List Value).toArray below meth cd H locs 0 0 (MQ below (rwQv G [oRa a (nI n), aI cI (a 14) 240 (nF U), aI cI (a 15) 240 (nF L)] (fun (u : (Nat → Nat) × (Nat → Nat)) => match u with | (U2, L2) => SE U L U2 L2 n ∧ srt U2 L2 n) (fun (u : (Nat → Nat) × (Nat → Nat)) => match u with | (U2, L2) => [oRa a (nI n), aI cI (a 14) 240 (nF U2), aI cI (a 15) 240 (nF L2)])) ([.ref (a 3)] : List Value).toArray s 0 0 A) (F0 mt 3 ls []) := by
    intro nf
    induction nf with
    | zero => intro g V N hg hse hs hfu; exact absurd hfu (Nat.not_lt_zero _)
    | succ nf ih_3 =>
      intro g V N hg hse hs hfu H locs hP hD hS ls hl
      refine lv_iload_n hx hb dX2_order_3 rfl (lv_at hl 1 rfl) ?_
      refine nv_if_le (tgt := 36) hx hb dX2_order_4 (by decide) (by omega) (fun c_4 => ?_) (fun c_4 => ?_)
      · exact W.vret hx hb hr (fun zt ht zw => ⟨⟨(V, N), rfl, (by exact ⟨hse, hs (by omega)⟩), by show va_P _ _ _ zt.heap; rw [ht]; exact hP⟩, by rw [hAe]; exact hS.F ht⟩) hS.2.2 dX2_order_36
      refine lv_iload_n hx hb dX2_order_7 rfl (lv_at hl 1 rfl) ?_
      refine lv_istore_n (lv' := [(2, .int (nI g)), (0, .ref (a 3)), (1, .int (nI g))]) hx hb dX2_order_8 rfl hl (by decide) rfl (fun ls hl => ?_)
      have lp_9 : ∀ (nf : Nat) (k : Nat) (V2 : Nat → Nat) (N2 : Nat → Nat), (g ≤ k) → (k ≤ 240) → (SE U L V2 N2 n) → (g = 1 → srt V2 N2 k) → 241 - k < nf → ∀ (H : Heap) (locs : List Loc), va_P G vwCl [oRa a (nI n), aI cI (a 14) 240 (nF V2), aI cI (a 15) 240 (nF N2)] H → va_D A [oRa a (nI n), aI cI (a 14) 240 (nF V2), aI cI (a 15) 240 (nF N2)] → va_S A s.heap H locs → ∀ (ls : Array Slot), lv_has ls 3 [(0, .ref (a 3)), (1, .int (nI g)), (2, .int (nI k))] → W pg l ev (headSpec wsX2_order ({ frames := 1, cells := 0, slots := 0, locals := 25 })).room s mt ([.ref (a 3)] : List Value).toArray below meth cd H locs 0 0 (MQ below (rwQv G [oRa a (nI n), aI cI (a 14) 240 (nF U), aI cI (a 15) 240 (nF L)] (fun (u : (Nat → Nat) × (Nat → Nat)) => match u with | (U2, L2) => SE U L U2 L2 n ∧ srt U2 L2 n) (fun (u : (Nat → Nat) × (Nat → Nat)) => match u with | (U2, L2) => [oRa a (nI n), aI cI (a 14) 240 (nF U2), aI cI (a 15) 240 (nF L2)])) ([.ref (a 3)] : List Value).toArray s 0 0 A) (F0 mt 9 ls []) := by
        intro nf
        induction nf with
        | zero => intro k V2 N2 hk hk2 hse2 hs2 hfu; exact absurd hfu (Nat.not_lt_zero _)
        | succ nf ih_9 =>
          intro k V2 N2 hk hk2 hse2 hs2 hfu H locs hP hD hS ls hl
          refine lv_iload_n hx hb dX2_order_9 rfl (lv_at hl 2 rfl) ?_
          refine lv_aload_n hx hb dX2_order_10 rfl (lv_at hl 0 rfl) ?_
          refine va_get (D := G) (own := RX2) (ref := "SpotRows$Ratios") (ci := 2) (v := .int (nI n)) (C := RX2) (T := TX2) (N := 3) hx hb hts hinX2 hown hK.1 hP 0 rfl rfl 2 (by decide) fl18 (fun _ h9 => h9) rfl dX2_order_11 ?_
          refine nv_icmp_ge (tgt := 29) hx hb dX2_order_14 (by decide) (by omega) (by omega) (fun c_14 => ?_) (fun c_14 => ?_)
          · refine lv_iload_n hx hb dX2_order_29 rfl (lv_at hl 1 rfl) ?_
            refine lv_iconst (v := nI 3) hx hb dX2_order_30 (by decide) ?_
            refine lv_idiv hx hb dX2_order_31 (nI_ne0 (by omega) (by omega)) ?_
            refine toi (pk_div (a := g) (d := 3) (by omega) (by omega) (by omega)) ?_
            refine lv_istore_n (lv' := [(1, .int (nI (g / 3))), (0, .ref (a 3)), (2, .int (nI k))]) hx hb dX2_order_32 rfl hl (by decide) rfl (fun ls hl => ?_)
            refine lv_goto (tgt := 3) hx hb dX2_order_33 (by decide) ?_
            exact ih_3 (g / 3) V2 N2 (by omega) (by exact hse2) (by intro h; exact fun i j h1 h2 => hs2 (by omega) i j h1 (by omega)) (by omega) H locs hP hD hS ls (lvcv (l := [(0, .ref (a 3)), (1, .int (nI (g / 3)))]) (lv_sub hl [1, 0] rfl) (lvC (lvC rfl)))
          refine lv_aload_n hx hb dX2_order_17 rfl (lv_at hl 0 rfl) ?_
          refine lv_iload_n hx hb dX2_order_18 rfl (lv_at hl 2 rfl) ?_
          refine lv_iload_n hx hb dX2_order_19 rfl (lv_at hl 1 rfl) ?_
          refine crw_v (free := fun _ => True) (va_runV (As := [.int (nI k), .int (nI g)]) (rest := []) ⟨hx, hb, hml, hown, hts⟩ (c_X2_sink l G cI cJ (a := a) (mn := nI n) (U := V2) (L := N2) (pl := k) (gap := g) (hp := by omega) (hg := by omega) (hb0 := fun j hj => BN_of hse2 hb0 j (by omega))) (cwV 2 hts gX2_order_X2_sink rfl rfl rfl (by decide +kernel) ⟨Nat.le_of_ble_eq_true rfl, Nat.le_of_ble_eq_true rfl⟩) (preV_rw (wc := [oRa a (nI n), aI cI (a 14) 240 (nF V2), aI cI (a 15) 240 (nF N2)]) hK hP hD [0, 1, 2] rfl rfl 2 0 rfl rfl rfl) rfl rfl hl.1 rfl (lv_room (Nat.le_of_ble_eq_true rfl)) dX2_order_20 ⟨Nat.zero_le _, Nat.zero_le _⟩) hP hD hS [0, 1, 2] rfl [a 3, a 14, a 15] (fun u => rfl) rfl (fun u_ H locs hw_20 hP hD hS => ?_)
          obtain ⟨U2_20, L2_20⟩ := u_
          have hP : va_P G vwCl [oRa a (nI n), aI cI (a 14) 240 (nF U2_20), aI cI (a 15) 240 (nF L2_20)] H := hP
          have hD : va_D A [oRa a (nI n), aI cI (a 14) 240 (nF U2_20), aI cI (a 15) 240 (nF L2_20)] := hD
          refine lv_iinc (v := nI (k + 1)) (lv' := [(2, .int (nI (k + 1))), (0, .ref (a 3)), (1, .int (nI g))]) hx hb dX2_order_23 hl (k := 2) rfl (nI_add k 1) (by decide) rfl (fun ls hl => ?_)
          refine lv_goto (tgt := 9) hx hb dX2_order_26 (by decide) ?_
          exact ih_9 (k + 1) U2_20 L2_20 (by omega) (by first | rfl | omega | (simp_all; done)) (by exact SE_tr hse2 (hw_20.1 n (by omega))) (by intro h; exact hw_20.2 h (hs2 h)) (by omega) H locs hP hD hS ls (lvcv (l := [(0, .ref (a 3)), (1, .int (nI g)), (2, .int (nI (k + 1)))]) (lv_sub hl [1, 2, 0] rfl) (lvC (lvC (lvC rfl))))
      exact lp_9 (241 - g + 1) g V N (by omega) (by first | rfl | omega | (simp_all; done)) (by exact hse) (by intro h i j h1 h2; omega) (by omega) _ _ hP hD hS ls (lvcv (l := [(0, .ref (a 3)), (1, .int (nI g)), (2, .int (nI g))]) (lv_sub hl [1, 2, 0] rfl) (lvC (lvC (lvC rfl))))
  exact lp_3 (121 + 1) 121 U L (by omega) (by exact SE_rf U L n) (by intro h; omega) (by omega) _ _ hP hD hS ls (lvcv (l := [(0, .ref (a 3)), (1, .int (nI 121))]) (lv_sub hl [1, 0] rfl) (lvC (lvC rfl)))

set_option maxHeartbeats 400000 in
set_option maxRecDepth 100000 in
theorem c_X7_middle (l : Launch) (G : va_G) (cI cJ : ClassId) (a : Nat → Nat) (oc : Int32) (up : Int64) (lo : Int64) (ey : Nat) (le : Int32) (t : Nat → Nat) (mn : Int32) (U : Nat → Nat) (L : Nat → Nat) (x : Int32) (y : Int32) (tb : TB t) (hey : ey ≤ 8) : Met l yX7_middle wsX7_middle ({ frames := 3, cells := 0, slots := 0, locals := 70 }) (rwP G cI cJ [.ref (a 0), .int x, .int y] [oX a oc, oFr a up lo, oTe a (nI ey) le, aI cI (a 11) 1920 (oF t), oRa a mn, aI cI (a 14) 240 (nF U), aI cI (a 15) 240 (nF L)]) (rwQi G [oX a oc, oFr a up lo, oTe a (nI ey) le, aI cI (a 11) 1920 (oF t), oRa a mn, aI cI (a 14) 240 (nF U), aI cI (a 15) 240 (nF L)] (fun (r : Int32) (u : Int32 × (Nat → Nat) × (Nat → Nat)) => match u with | (mn2, U2, L2) => r = oI (rFr (qMid t ey x y) (midU t (nn x) (nn y))) ∧ True) (fun (u : Int32 × (Nat → Nat) × (Nat → Nat)) => match u with | (mn2, U2, L2) => [oX a (nI (qMid t ey x y)), oFr a (frM (qMid t ey x y) (midU t (nn x) (nn y)) up) (frM (qMid t ey x y) (midL t (nn x) (nn y)) lo), oTe a (nI ey) le, aI cI (a 11) 1920 (oF t), oRa a mn2, aI cI (a 14) 240 (nF U2), aI cI (a 15) 240 (nF L2)])) 0 0 (ads [oX a oc, oFr a up lo, oTe a (nI ey) le, aI cI (a 11) 1920 (oF t), oRa a mn, aI cI (a 14) 240 (nF U), aI cI (a 15) 240 (nF L)]) := by
  refine Met.ofW (cc := cX7_middle) (maxL := 4) (ret := (some .int)) (by decide) rfl ?_
  intro pg ev s mt args below meth cd s₁ B hml hv
  obtain ⟨rfl, hP, hD0, hK⟩ := hv
  have hx := B.exec
  have hb := B.bytes
  have hr := B.returns
  have hts := atoms_spec (ws := wsX7_middle) B.pre
  have hown : s.vm.findClass RX7 = some mt.cls := findClass_of_methodNamed B.named
  have hlocks := B.notSynchronized
  have hD := ads_self hD0
  generalize hAe : ads [oX a oc, oFr a up lo, oTe a (nI ey) le, aI cI (a 11) 1920 (oF t), oRa a mn, aI cI (a 14) 240 (nF U), aI cI (a 15) 240 (nF L)] = A at hD ⊢
  have hS : va_S A s.heap s.heap [] := va_S.rf
  have hP : va_P G vwCl [oX a oc, oFr a up lo, oTe a (nI ey) le, aI cI (a 11) 1920 (oF t), oRa a mn, aI cI (a 14) 240 (nF U), aI cI (a 15) 240 (nF L)] s.heap := hP
  have hinX7 := (show ∀ w ∈ u_ws RX7 TX7 8, w ∈ wsX7_middle by decide +kernel)
  have fl26 := hts (.fieldLink RX7 26 "SpotRows" "ratios" "LSpotRows$Ratios;") (by decide +kernel)
  have fl19 := hts (.fieldLink RX7 19 "SpotRows" "tellings" "LSpotRows$Tellings;") (by decide +kernel)
  have hinX2 := (show ∀ w ∈ u_ws RX2 TX2 3, w ∈ wsX7_middle by decide +kernel)
  have fn175 := va_Nw.use (A := ([.ref (a 0), .int x, .int y] : List Value).toArray) rfl (hK.2.1 (.fieldLinkNest "SpotRows" 175 "SpotRows$Ratios" "many" "I" "SpotRows") (by decide +kernel))
  have fn181 := va_Nw.use (A := ([.ref (a 0), .int x, .int y] : List Value).toArray) rfl (hK.2.1 (.fieldLinkNest "SpotRows" 181 "SpotRows$Ratios" "uppers" "[I" "SpotRows") (by decide +kernel))
  have fn185 := va_Nw.use (A := ([.ref (a 0), .int x, .int y] : List Value).toArray) rfl (hK.2.1 (.fieldLinkNest "SpotRows" 185 "SpotRows$Ratios" "lowers" "[I" "SpotRows") (by decide +kernel))
  have hl := lv_entry ([.ref (a 0), .int x, .int y]) (n := 4) (Nat.le_of_ble_eq_true rfl)
  rw [lg_entry_eq]
  generalize (lg_sl ([.ref (a 0), .int x, .int y]) ++ List.replicate (4 - (lg_sl ([.ref (a 0), .int x, .int y])).length) Slot.unset).toArray = ls at hl ⊢
  have hl : lv_has ls 4 [(0, .ref (a 0)), (1, .int x), (2, .int y)] := hl
  refine lv_aload_n hx hb dX7_middle_0 rfl (lv_at hl 0 rfl) ?_
  refine lv_iload_n hx hb dX7_middle_1 rfl (lv_at hl 1 rfl) ?_
  refine lv_iload_n hx hb dX7_middle_2 rfl (lv_at hl 2 rfl) ?_
  refine cro_i (va_runV (As := [.int x, .int y]) (rest := []) ⟨hx, hb, hml, hown, hts⟩ (c_X7_arePair l G cI cJ (a := a) (oc := oc) (ey := ey) (le := le) (x := x) (y := y) (hey := by first | assumption | omega)) (cwV 2 hts gX7_middle_X7_arePair rfl rfl rfl (by decide +kernel) ⟨Nat.le_of_ble_eq_true rfl, Nat.le_of_ble_eq_true rfl⟩) (preV_ro (wc := [oX a oc, oTe a (nI ey) le]) hK hP [0, 2] rfl 7 0 rfl rfl rfl) rfl rfl hl.1 rfl (lv_room (Nat.le_of_ble_eq_true rfl)) dX7_middle_3 ⟨Nat.zero_le _, Nat.zero_le _⟩) ?_
  refine nb_if_ne (tgt := 15) hx hb dX7_middle_6 (by decide) (fun c_6 => ?_) (fun c_6 => ?_)
  · obtain ⟨j_x, h_x, rfl⟩ := rg_ex c_6.1
    have e_x := nn_nI (j := j_x) (by omega)
    obtain ⟨j_y, h_y, rfl⟩ := rg_ex c_6.2.1
    have e_y := nn_nI (j := j_y) (by omega)
    have ne_x_y : j_x ≠ j_y := fun h => c_6.2.2 (congrArg nI h)
    refine lv_aload_n hx hb dX7_middle_15 rfl (lv_at hl 0 rfl) ?_
    refine va_get (D := G) (own := RX7) (ref := "SpotRows") (ci := 7) (v := .ref (a 3)) (C := RX7) (T := TX7) (N := 8) hx hb hts hinX7 hown hK.1 hP 0 rfl rfl 2 (by decide) fl26 (fun _ h9 => h9) rfl dX7_middle_16 ?_
    refine lv_aload_n hx hb dX7_middle_19 rfl (lv_at hl 0 rfl) ?_
    refine va_get (D := G) (own := RX7) (ref := "SpotRows") (ci := 7) (v := .ref (a 2)) (C := RX7) (T := TX7) (N := 8) hx hb hts hinX7 hown hK.1 hP 0 rfl rfl 1 (by decide) fl19 (fun _ h9 => h9) rfl dX7_middle_20 ?_
    refine lv_iload_n hx hb dX7_middle_23 rfl (lv_at hl 1 rfl) ?_
    refine lv_iload_n hx hb dX7_middle_24 rfl (lv_at hl 2 rfl) ?_
    refine crw_v (free := fun _ => True) (va_runV (As := [.ref (a 2), .int (nI j_x), .int (nI j_y)]) (rest := []) ⟨hx, hb, hml, hown, hts⟩ (c_X2_gather l G cI cJ (a := a) (mn := mn) (ey := nI ey) (le := le) (t := t) (U := U) (L := L) (x := j_x) (y := j_y) (tb := by first | assumption | omega) (h_x := by first | assumption | omega) (h_y := by first | assumption | omega)) (cwV 3 hts gX7_middle_X2_gather rfl rfl rfl (by decide +kernel) ⟨Nat.le_of_ble_eq_true rfl, Nat.le_of_ble_eq_true rfl⟩) (preV_rw (wc := [oRa a mn, aI cI (a 14) 240 (nF U), aI cI (a 15) 240 (nF L), oTe a (nI ey) le, aI cI (a 11) 1920 (oF t)]) hK hP hD [4, 5, 6, 2, 3] rfl rfl 2 4 rfl rfl rfl) rfl rfl hl.1 rfl (lv_room (Nat.le_of_ble_eq_true rfl)) dX7_middle_25 ⟨Nat.zero_le _, Nat.zero_le _⟩) hP hD hS [4, 5, 6, 2, 3] rfl [a 3, a 14, a 15, a 2, a 11] (fun u => rfl) rfl (fun u_ H locs hw_25 hP hD hS => ?_)
    have hP : va_P G vwCl [oX a oc, oFr a up lo, oTe a (nI ey) le, aI cI (a 11) 1920 (oF t), oRa a (nI (gC t j_x j_y 240)), aI cI (a 14) 240 (nF (gU t j_x j_y U 240)), aI cI (a 15) 240 (nF (gL t j_x j_y L 240))] H := hP
    have hD : va_D A [oX a oc, oFr a up lo, oTe a (nI ey) le, aI cI (a 11) 1920 (oF t), oRa a (nI (gC t j_x j_y 240)), aI cI (a 14) 240 (nF (gU t j_x j_y U 240)), aI cI (a 15) 240 (nF (gL t j_x j_y L 240))] := hD
    have f1 := gC_le t j_x j_y 240
    refine lv_aload_n hx hb dX7_middle_28 rfl (lv_at hl 0 rfl) ?_
    refine va_get (D := G) (own := RX7) (ref := "SpotRows") (ci := 7) (v := .ref (a 3)) (C := RX7) (T := TX7) (N := 8) hx hb hts hinX7 hown hK.1 hP 0 rfl rfl 2 (by decide) fl26 (fun _ h9 => h9) rfl dX7_middle_29 ?_
    refine va_getN (D := G) (own := RX7) (host := "SpotRows") (ref := "SpotRows$Ratios") (ci := 2) (v := .int (nI (gC t j_x j_y 240))) (C := RX2) (T := TX2) (N := 3) hx hb hts hinX2 hown hK.1 hP 4 rfl rfl 2 (by decide) fn175 (fun _ h9 => h9) rfl dX7_middle_32 ?_
    refine nv_if_ne (tgt := 45) hx hb dX7_middle_35 (by decide) (by omega) (fun c_35 => ?_) (fun c_35 => ?_)
    · refine lv_aload_n hx hb dX7_middle_45 rfl (lv_at hl 0 rfl) ?_
      refine va_get (D := G) (own := RX7) (ref := "SpotRows") (ci := 7) (v := .ref (a 3)) (C := RX7) (T := TX7) (N := 8) hx hb hts hinX7 hown hK.1 hP 0 rfl rfl 2 (by decide) fl26 (fun _ h9 => h9) rfl dX7_middle_46 ?_
      refine crw_v (free := fun _ => True) (va_runV (As := []) (rest := []) ⟨hx, hb, hml, hown, hts⟩ (c_X2_order l G cI cJ (a := a) (n := gC t j_x j_y 240) (U := gU t j_x j_y U 240) (L := gL t j_x j_y L 240) (hn := f1) (hb0 := gather_BN tb j_x j_y U L)) (cwV 0 hts gX7_middle_X2_order rfl rfl rfl (by decide +kernel) ⟨Nat.le_of_ble_eq_true rfl, Nat.le_of_ble_eq_true rfl⟩) (preV_rw (wc := [oRa a (nI (gC t j_x j_y 240)), aI cI (a 14) 240 (nF (gU t j_x j_y U 240)), aI cI (a 15) 240 (nF (gL t j_x j_y L 240))]) hK hP hD [4, 5, 6] rfl rfl 2 4 rfl rfl rfl) rfl rfl hl.1 rfl (lv_room (Nat.le_of_ble_eq_true rfl)) dX7_middle_49 ⟨Nat.zero_le _, Nat.zero_le _⟩) hP hD hS [4, 5, 6] rfl [a 3, a 14, a 15] (fun u => rfl) rfl (fun u_ H locs hw_49 hP hD hS => ?_)
      obtain ⟨U2_49, L2_49⟩ := u_
      have hP : va_P G vwCl [oX a oc, oFr a up lo, oTe a (nI ey) le, aI cI (a 11) 1920 (oF t), oRa a (nI (gC t j_x j_y 240)), aI cI (a 14) 240 (nF U2_49), aI cI (a 15) 240 (nF L2_49)] H := hP
      have hD : va_D A [oX a oc, oFr a up lo, oTe a (nI ey) le, aI cI (a 11) 1920 (oF t), oRa a (nI (gC t j_x j_y 240)), aI cI (a 14) 240 (nF U2_49), aI cI (a 15) 240 (nF L2_49)] := hD
      have bn := BN_of hw_49.1 (gather_BN tb j_x j_y U L)
      have md := mid_srt hw_49.2 bn hw_49.1 (by omega)
      have b0 := bn ((gC t j_x j_y 240 - 1) / 2) (by omega)
      obtain ⟨md1, md2⟩ := mid_eq md
      have mp := pos_red (u := U2_49 ((gC t j_x j_y 240 - 1) / 2)) b0.2.2
      rw [md1] at mp
      refine lv_aload_n hx hb dX7_middle_52 rfl (lv_at hl 0 rfl) ?_
      refine va_get (D := G) (own := RX7) (ref := "SpotRows") (ci := 7) (v := .ref (a 3)) (C := RX7) (T := TX7) (N := 8) hx hb hts hinX7 hown hK.1 hP 0 rfl rfl 2 (by decide) fl26 (fun _ h9 => h9) rfl dX7_middle_53 ?_
      refine va_getN (D := G) (own := RX7) (host := "SpotRows") (ref := "SpotRows$Ratios") (ci := 2) (v := .int (nI (gC t j_x j_y 240))) (C := RX2) (T := TX2) (N := 3) hx hb hts hinX2 hown hK.1 hP 4 rfl rfl 2 (by decide) fn175 (fun _ h9 => h9) rfl dX7_middle_56 ?_
      refine lv_iconst (v := nI 1) hx hb dX7_middle_59 (by decide) ?_
      refine lv_isub hx hb dX7_middle_60 ?_
      refine toi (pk_sub (a := (gC t j_x j_y 240)) (b := 1) (by omega)) ?_
      refine lv_iconst (v := nI 2) hx hb dX7_middle_61 (by decide) ?_
      refine lv_idiv hx hb dX7_middle_62 (nI_ne0 (by omega) (by omega)) ?_
      refine toi (pk_div (a := (gC t j_x j_y 240 - 1)) (d := 2) (by omega) (by omega) (by omega)) ?_
      refine lv_istore_n (lv' := [(3, .int (nI ((gC t j_x j_y 240 - 1) / 2))), (0, .ref (a 0)), (1, .int (nI j_x)), (2, .int (nI j_y))]) hx hb dX7_middle_63 rfl hl (by decide) rfl (fun ls hl => ?_)
      refine lv_aload_n hx hb dX7_middle_64 rfl (lv_at hl 1 rfl) ?_
      refine lv_aload_n hx hb dX7_middle_65 rfl (lv_at hl 1 rfl) ?_
      refine va_get (D := G) (own := RX7) (ref := "SpotRows") (ci := 7) (v := .ref (a 3)) (C := RX7) (T := TX7) (N := 8) hx hb hts hinX7 hown hK.1 hP 0 rfl rfl 2 (by decide) fl26 (fun _ h9 => h9) rfl dX7_middle_66 ?_
      refine va_getN (D := G) (own := RX7) (host := "SpotRows") (ref := "SpotRows$Ratios") (ci := 2) (v := .ref (a 14)) (C := RX2) (T := TX2) (N := 3) hx hb hts hinX2 hown hK.1 hP 4 rfl rfl 0 (by decide) fn181 (fun _ h9 => h9) rfl dX7_middle_69 ?_
      refine lv_iload_n hx hb dX7_middle_72 rfl (lv_at hl 0 rfl) ?_
      refine ld_nF hx hb hK hP 5 (k := (gC t j_x j_y 240 - 1) / 2) rfl (by omega) (by decide) dX7_middle_73 ?_
      refine lv_aload_n hx hb dX7_middle_74 rfl (lv_at hl 1 rfl) ?_
      refine va_get (D := G) (own := RX7) (ref := "SpotRows") (ci := 7) (v := .ref (a 3)) (C := RX7) (T := TX7) (N := 8) hx hb hts hinX7 hown hK.1 hP 0 rfl rfl 2 (by decide) fl26 (fun _ h9 => h9) rfl dX7_middle_75 ?_
      refine va_getN (D := G) (own := RX7) (host := "SpotRows") (ref := "SpotRows$Ratios") (ci := 2) (v := .ref (a 15)) (C := RX2) (T := TX2) (N := 3) hx hb hts hinX2 hown hK.1 hP 4 rfl rfl 1 (by decide) fn185 (fun _ h9 => h9) rfl dX7_middle_78 ?_
      refine lv_iload_n hx hb dX7_middle_81 rfl (lv_at hl 0 rfl) ?_
      refine ld_nF hx hb hK hP 6 (k := (gC t j_x j_y 240 - 1) / 2) rfl (by omega) (by decide) dX7_middle_82 ?_
      refine crw_i (va_runV (As := [.int (nI (U2_49 ((gC t j_x j_y 240 - 1) / 2))), .int (nI (L2_49 ((gC t j_x j_y 240 - 1) / 2)))]) (rest := []) ⟨hx, hb, hml, hown, hts⟩ (c_X7_tellFraction l G cI cJ (a := a) (oc := oc) (up := up) (lo := lo) (x := U2_49 ((gC t j_x j_y 240 - 1) / 2)) (y := L2_49 ((gC t j_x j_y 240 - 1) / 2)) (h1 := by first | assumption | omega) (h2 := by first | assumption | omega) (h3 := by first | assumption | omega)) (cwV 2 hts gX7_middle_X7_tellFraction rfl rfl rfl (by decide +kernel) ⟨Nat.le_of_ble_eq_true rfl, Nat.le_of_ble_eq_true rfl⟩) (preV_rw (wc := [oX a oc, oFr a up lo]) hK hP hD [0, 1] rfl rfl 7 0 rfl rfl rfl) rfl rfl hl.1 rfl (lv_room (Nat.le_of_ble_eq_true rfl)) dX7_middle_83 ⟨Nat.zero_le _, Nat.zero_le _⟩) hP hD hS [0, 1] rfl [a 0, a 7] (fun u => rfl) rfl (fun r_83 u_ H locs hw_83 hP hD hS => ?_)
      have hP : va_P G vwCl [oX a (nI 0), oFr a (lN ((U2_49 ((gC t j_x j_y 240 - 1) / 2)) / Nat.gcd (U2_49 ((gC t j_x j_y 240 - 1) / 2)) (L2_49 ((gC t j_x j_y 240 - 1) / 2)))) (lN ((L2_49 ((gC t j_x j_y 240 - 1) / 2)) / Nat.gcd (U2_49 ((gC t j_x j_y 240 - 1) / 2)) (L2_49 ((gC t j_x j_y 240 - 1) / 2)))), oTe a (nI ey) le, aI cI (a 11) 1920 (oF t), oRa a (nI (gC t j_x j_y 240)), aI cI (a 14) 240 (nF U2_49), aI cI (a 15) 240 (nF L2_49)] H := hP
      have hD : va_D A [oX a (nI 0), oFr a (lN ((U2_49 ((gC t j_x j_y 240 - 1) / 2)) / Nat.gcd (U2_49 ((gC t j_x j_y 240 - 1) / 2)) (L2_49 ((gC t j_x j_y 240 - 1) / 2)))) (lN ((L2_49 ((gC t j_x j_y 240 - 1) / 2)) / Nat.gcd (U2_49 ((gC t j_x j_y 240 - 1) / 2)) (L2_49 ((gC t j_x j_y 240 - 1) / 2)))), oTe a (nI ey) le, aI cI (a 11) 1920 (oF t), oRa a (nI (gC t j_x j_y 240)), aI cI (a 14) 240 (nF U2_49), aI cI (a 15) 240 (nF L2_49)] := hD
      refine toi hw_83 ?_
      have hP : va_P G vwCl [oX a (nI (qMid t ey (nI j_x) (nI j_y))), oFr a (frM (qMid t ey (nI j_x) (nI j_y)) (midU t (nn (nI j_x)) (nn (nI j_y))) up) (frM (qMid t ey (nI j_x) (nI j_y)) (midL t (nn (nI j_x)) (nn (nI j_y))) lo), oTe a (nI ey) le, aI cI (a 11) 1920 (oF t), oRa a (nI (gC t j_x j_y 240)), aI cI (a 14) 240 (nF U2_49), aI cI (a 15) 240 (nF L2_49)] H := by
        have ew : ([oX a (nI 0), oFr a (lN ((U2_49 ((gC t j_x j_y 240 - 1) / 2)) / Nat.gcd (U2_49 ((gC t j_x j_y 240 - 1) / 2)) (L2_49 ((gC t j_x j_y 240 - 1) / 2)))) (lN ((L2_49 ((gC t j_x j_y 240 - 1) / 2)) / Nat.gcd (U2_49 ((gC t j_x j_y 240 - 1) / 2)) (L2_49 ((gC t j_x j_y 240 - 1) / 2)))), oTe a (nI ey) le, aI cI (a 11) 1920 (oF t), oRa a (nI (gC t j_x j_y 240)), aI cI (a 14) 240 (nF U2_49), aI cI (a 15) 240 (nF L2_49)] : va_W) = [oX a (nI (qMid t ey (nI j_x) (nI j_y))), oFr a (frM (qMid t ey (nI j_x) (nI j_y)) (midU t (nn (nI j_x)) (nn (nI j_y))) up) (frM (qMid t ey (nI j_x) (nI j_y)) (midL t (nn (nI j_x)) (nn (nI j_y))) lo), oTe a (nI ey) le, aI cI (a 11) 1920 (oF t), oRa a (nI (gC t j_x j_y 240)), aI cI (a 14) 240 (nF U2_49), aI cI (a 15) 240 (nF L2_49)] := (wvC (congrArg (fun zz => oX a zz) (show nI 0 = nI (qMid t ey (nI j_x) (nI j_y)) from (congrArg nI (show 0 = (qMid t ey (nI j_x) (nI j_y)) from by have kq : qMid t ey (nI j_x) (nI j_y) = 0 := (by simp [qMid, pr, c_6, cif_T, e_x, e_y, c_35]); first | exact kq.symm | (rw [frM, if_pos kq, e_x, e_y, md1]; done) | (rw [frM, if_pos kq, e_x, e_y, md2]; done) | (rw [rFr, if_pos kq, e_x, e_y]; by_cases q : 0 < U2_49 ((gC t j_x j_y 240 - 1) / 2); (rw [if_pos q, if_pos (mp.mpr q)]); (rw [if_neg q, if_neg (fun z => q (mp.mp z))])))))) (wvC (Eq.trans (congrArg (fun zz => oFr a zz (lN ((L2_49 ((gC t j_x j_y 240 - 1) / 2)) / Nat.gcd (U2_49 ((gC t j_x j_y 240 - 1) / 2)) (L2_49 ((gC t j_x j_y 240 - 1) / 2))))) (show lN ((U2_49 ((gC t j_x j_y 240 - 1) / 2)) / Nat.gcd (U2_49 ((gC t j_x j_y 240 - 1) / 2)) (L2_49 ((gC t j_x j_y 240 - 1) / 2))) = frM (qMid t ey (nI j_x) (nI j_y)) (midU t (nn (nI j_x)) (nn (nI j_y))) up from (show lN ((U2_49 ((gC t j_x j_y 240 - 1) / 2)) / Nat.gcd (U2_49 ((gC t j_x j_y 240 - 1) / 2)) (L2_49 ((gC t j_x j_y 240 - 1) / 2))) = frM (qMid t ey (nI j_x) (nI j_y)) (midU t (nn (nI j_x)) (nn (nI j_y))) up from by have kq : qMid t ey (nI j_x) (nI j_y) = 0 := (by simp [qMid, pr, c_6, cif_T, e_x, e_y, c_35]); first | exact kq.symm | (rw [frM, if_pos kq, e_x, e_y, md1]; done) | (rw [frM, if_pos kq, e_x, e_y, md2]; done) | (rw [rFr, if_pos kq, e_x, e_y]; by_cases q : 0 < U2_49 ((gC t j_x j_y 240 - 1) / 2); (rw [if_pos q, if_pos (mp.mpr q)]); (rw [if_neg q, if_neg (fun z => q (mp.mp z))]))))) (congrArg (fun zz => oFr a (frM (qMid t ey (nI j_x) (nI j_y)) (midU t (nn (nI j_x)) (nn (nI j_y))) up) zz) (show lN ((L2_49 ((gC t j_x j_y 240 - 1) / 2)) / Nat.gcd (U2_49 ((gC t j_x j_y 240 - 1) / 2)) (L2_49 ((gC t j_x j_y 240 - 1) / 2))) = frM (qMid t ey (nI j_x) (nI j_y)) (midL t (nn (nI j_x)) (nn (nI j_y))) lo from (show lN ((L2_49 ((gC t j_x j_y 240 - 1) / 2)) / Nat.gcd (U2_49 ((gC t j_x j_y 240 - 1) / 2)) (L2_49 ((gC t j_x j_y 240 - 1) / 2))) = frM (qMid t ey (nI j_x) (nI j_y)) (midL t (nn (nI j_x)) (nn (nI j_y))) lo from by have kq : qMid t ey (nI j_x) (nI j_y) = 0 := (by simp [qMid, pr, c_6, cif_T, e_x, e_y, c_35]); first | exact kq.symm | (rw [frM, if_pos kq, e_x, e_y, md1]; done) | (rw [frM, if_pos kq, e_x, e_y, md2]; done) | (rw [rFr, if_pos kq, e_x, e_y]; by_cases q : 0 < U2_49 ((gC t j_x j_y 240 - 1) / 2); (rw [if_pos q, if_pos (mp.mpr q)]); (rw [if_neg q, if_neg (fun z => q (mp.mp z))])))))) (wvC rfl (wvC rfl (wvC rfl (wvC rfl (wvC rfl rfl)))))))
        rw [← ew]; exact hP
      exact W.iret (v := nI (if 0 < (U2_49 ((gC t j_x j_y 240 - 1) / 2)) then 1 else 0)) hx hb hr (fun zt ht zw => ⟨⟨_, (nI (gC t j_x j_y 240), U2_49, L2_49), rfl, ⟨((nI_o (if 0 < (U2_49 ((gC t j_x j_y 240 - 1) / 2)) then 1 else 0)).trans (congrArg oI (show (if 0 < (U2_49 ((gC t j_x j_y 240 - 1) / 2)) then 1 else 0) + 1 = (rFr (qMid t ey (nI j_x) (nI j_y)) (midU t (nn (nI j_x)) (nn (nI j_y)))) from by have kq : qMid t ey (nI j_x) (nI j_y) = 0 := (by simp [qMid, pr, c_6, cif_T, e_x, e_y, c_35]); first | exact kq.symm | (rw [frM, if_pos kq, e_x, e_y, md1]; done) | (rw [frM, if_pos kq, e_x, e_y, md2]; done) | (rw [rFr, if_pos kq, e_x, e_y]; by_cases q : 0 < U2_49 ((gC t j_x j_y 240 - 1) / 2); (rw [if_pos q, if_pos (mp.mpr q)]); (rw [if_neg q, if_neg (fun z => q (mp.mp z))]))))), (by trivial)⟩, by show va_P _ _ _ zt.heap; rw [ht]; exact hP⟩, by rw [hAe]; exact hS.F ht⟩) hS.2.2 dX7_middle_86
    refine lv_aload_n hx hb dX7_middle_38 rfl (lv_at hl 0 rfl) ?_
    refine lv_bipush (v := nI 6) hx hb dX7_middle_39 (by decide) ?_
    refine crw_i (va_runV (As := [.int (nI 6)]) (rest := []) ⟨hx, hb, hml, hown, hts⟩ (c_X7_lack l G cI cJ (a := a) (oc := oc) (w := nI 6) ) (cwV 1 hts gX7_middle_X7_lack rfl rfl rfl (by decide +kernel) ⟨Nat.le_of_ble_eq_true rfl, Nat.le_of_ble_eq_true rfl⟩) (preV_rw (wc := [oX a oc]) hK hP hD [0] rfl rfl 7 0 rfl rfl rfl) rfl rfl hl.1 rfl (lv_room (Nat.le_of_ble_eq_true rfl)) dX7_middle_41 ⟨Nat.zero_le _, Nat.zero_le _⟩) hP hD hS [0] rfl [a 0] (fun u => rfl) rfl (fun r_41 u_ H locs hw_41 hP hD hS => ?_)
    have hP : va_P G vwCl [oX a (nI 6), oFr a up lo, oTe a (nI ey) le, aI cI (a 11) 1920 (oF t), oRa a (nI (gC t j_x j_y 240)), aI cI (a 14) 240 (nF (gU t j_x j_y U 240)), aI cI (a 15) 240 (nF (gL t j_x j_y L 240))] H := hP
    have hD : va_D A [oX a (nI 6), oFr a up lo, oTe a (nI ey) le, aI cI (a 11) 1920 (oF t), oRa a (nI (gC t j_x j_y 240)), aI cI (a 14) 240 (nF (gU t j_x j_y U 240)), aI cI (a 15) 240 (nF (gL t j_x j_y L 240))] := hD
    refine toi hw_41 ?_
    have hP : va_P G vwCl [oX a (nI (qMid t ey (nI j_x) (nI j_y))), oFr a (frM (qMid t ey (nI j_x) (nI j_y)) (midU t (nn (nI j_x)) (nn (nI j_y))) up) (frM (qMid t ey (nI j_x) (nI j_y)) (midL t (nn (nI j_x)) (nn (nI j_y))) lo), oTe a (nI ey) le, aI cI (a 11) 1920 (oF t), oRa a (nI (gC t j_x j_y 240)), aI cI (a 14) 240 (nF (gU t j_x j_y U 240)), aI cI (a 15) 240 (nF (gL t j_x j_y L 240))] H := by
      have ew : ([oX a (nI 6), oFr a up lo, oTe a (nI ey) le, aI cI (a 11) 1920 (oF t), oRa a (nI (gC t j_x j_y 240)), aI cI (a 14) 240 (nF (gU t j_x j_y U 240)), aI cI (a 15) 240 (nF (gL t j_x j_y L 240))] : va_W) = [oX a (nI (qMid t ey (nI j_x) (nI j_y))), oFr a (frM (qMid t ey (nI j_x) (nI j_y)) (midU t (nn (nI j_x)) (nn (nI j_y))) up) (frM (qMid t ey (nI j_x) (nI j_y)) (midL t (nn (nI j_x)) (nn (nI j_y))) lo), oTe a (nI ey) le, aI cI (a 11) 1920 (oF t), oRa a (nI (gC t j_x j_y 240)), aI cI (a 14) 240 (nF (gU t j_x j_y U 240)), aI cI (a 15) 240 (nF (gL t j_x j_y L 240))] := (wvC (congrArg (fun zz => oX a zz) (show nI 6 = nI (qMid t ey (nI j_x) (nI j_y)) from (congrArg nI (show 6 = (qMid t ey (nI j_x) (nI j_y)) from by simp [qMid, pr, rFr, frM, c_6, cif_T, e_x, e_y, c_35])))) (wvC (Eq.trans (congrArg (fun zz => oFr a zz lo) (show up = frM (qMid t ey (nI j_x) (nI j_y)) (midU t (nn (nI j_x)) (nn (nI j_y))) up from (show up = frM (qMid t ey (nI j_x) (nI j_y)) (midU t (nn (nI j_x)) (nn (nI j_y))) up from by simp [qMid, pr, rFr, frM, c_6, cif_T, e_x, e_y, c_35]))) (congrArg (fun zz => oFr a (frM (qMid t ey (nI j_x) (nI j_y)) (midU t (nn (nI j_x)) (nn (nI j_y))) up) zz) (show lo = frM (qMid t ey (nI j_x) (nI j_y)) (midL t (nn (nI j_x)) (nn (nI j_y))) lo from (show lo = frM (qMid t ey (nI j_x) (nI j_y)) (midL t (nn (nI j_x)) (nn (nI j_y))) lo from by simp [qMid, pr, rFr, frM, c_6, cif_T, e_x, e_y, c_35])))) (wvC rfl (wvC rfl (wvC rfl (wvC rfl (wvC rfl rfl)))))))
      rw [← ew]; exact hP
    exact W.iret (v := (-1)) hx hb hr (fun zt ht zw => ⟨⟨_, (nI (gC t j_x j_y 240), gU t j_x j_y U 240, gL t j_x j_y L 240), rfl, ⟨(m1_o.trans (congrArg oI (show 0 = (rFr (qMid t ey (nI j_x) (nI j_y)) (midU t (nn (nI j_x)) (nn (nI j_y)))) from by simp [qMid, pr, rFr, frM, c_6, cif_T, e_x, e_y, c_35]))), (by trivial)⟩, by show va_P _ _ _ zt.heap; rw [ht]; exact hP⟩, by rw [hAe]; exact hS.F ht⟩) hS.2.2 dX7_middle_44
  refine lv_aload_n hx hb dX7_middle_9 rfl (lv_at hl 0 rfl) ?_
  refine lv_iconst (v := nI 1) hx hb dX7_middle_10 (by decide) ?_
  refine crw_i (va_runV (As := [.int (nI 1)]) (rest := []) ⟨hx, hb, hml, hown, hts⟩ (c_X7_lack l G cI cJ (a := a) (oc := oc) (w := nI 1) ) (cwV 1 hts gX7_middle_X7_lack rfl rfl rfl (by decide +kernel) ⟨Nat.le_of_ble_eq_true rfl, Nat.le_of_ble_eq_true rfl⟩) (preV_rw (wc := [oX a oc]) hK hP hD [0] rfl rfl 7 0 rfl rfl rfl) rfl rfl hl.1 rfl (lv_room (Nat.le_of_ble_eq_true rfl)) dX7_middle_11 ⟨Nat.zero_le _, Nat.zero_le _⟩) hP hD hS [0] rfl [a 0] (fun u => rfl) rfl (fun r_11 u_ H locs hw_11 hP hD hS => ?_)
  have hP : va_P G vwCl [oX a (nI 1), oFr a up lo, oTe a (nI ey) le, aI cI (a 11) 1920 (oF t), oRa a mn, aI cI (a 14) 240 (nF U), aI cI (a 15) 240 (nF L)] H := hP
  have hD : va_D A [oX a (nI 1), oFr a up lo, oTe a (nI ey) le, aI cI (a 11) 1920 (oF t), oRa a mn, aI cI (a 14) 240 (nF U), aI cI (a 15) 240 (nF L)] := hD
  refine toi hw_11 ?_
  have hP : va_P G vwCl [oX a (nI (qMid t ey x y)), oFr a (frM (qMid t ey x y) (midU t (nn x) (nn y)) up) (frM (qMid t ey x y) (midL t (nn x) (nn y)) lo), oTe a (nI ey) le, aI cI (a 11) 1920 (oF t), oRa a mn, aI cI (a 14) 240 (nF U), aI cI (a 15) 240 (nF L)] H := by
    have ew : ([oX a (nI 1), oFr a up lo, oTe a (nI ey) le, aI cI (a 11) 1920 (oF t), oRa a mn, aI cI (a 14) 240 (nF U), aI cI (a 15) 240 (nF L)] : va_W) = [oX a (nI (qMid t ey x y)), oFr a (frM (qMid t ey x y) (midU t (nn x) (nn y)) up) (frM (qMid t ey x y) (midL t (nn x) (nn y)) lo), oTe a (nI ey) le, aI cI (a 11) 1920 (oF t), oRa a mn, aI cI (a 14) 240 (nF U), aI cI (a 15) 240 (nF L)] := (wvC (congrArg (fun zz => oX a zz) (show nI 1 = nI (qMid t ey x y) from (congrArg nI (show 1 = (qMid t ey x y) from by simp [qMid, pr, rFr, frM, c_6, cif_F])))) (wvC (Eq.trans (congrArg (fun zz => oFr a zz lo) (show up = frM (qMid t ey x y) (midU t (nn x) (nn y)) up from (show up = frM (qMid t ey x y) (midU t (nn x) (nn y)) up from by simp [qMid, pr, rFr, frM, c_6, cif_F]))) (congrArg (fun zz => oFr a (frM (qMid t ey x y) (midU t (nn x) (nn y)) up) zz) (show lo = frM (qMid t ey x y) (midL t (nn x) (nn y)) lo from (show lo = frM (qMid t ey x y) (midL t (nn x) (nn y)) lo from by simp [qMid, pr, rFr, frM, c_6, cif_F])))) (wvC rfl (wvC rfl (wvC rfl (wvC rfl (wvC rfl rfl)))))))
    rw [← ew]; exact hP
  exact W.iret (v := (-1)) hx hb hr (fun zt ht zw => ⟨⟨_, (mn, U, L), rfl, ⟨(m1_o.trans (congrArg oI (show 0 = (rFr (qMid t ey x y) (midU t (nn x) (nn y))) from by simp [qMid, pr, rFr, frM, c_6, cif_F]))), (by trivial)⟩, by show va_P _ _ _ zt.heap; rw [ht]; exact hP⟩, by rw [hAe]; exact hS.F ht⟩) hS.2.2 dX7_middle_14
