set_option maxHeartbeats 400000 in
set_option maxRecDepth 100000 in
theorem c_X4_gather (l : Launch) (G : va_G) (cI cJ : ClassId) (a : Nat → Nat) (bl : Int32) (ey : Int32) (le : Int32) (t : Nat → Nat) (S : Nat → Nat) (D : Nat → Nat) (x : Nat) (y : Nat) (tb : TB t) (h_x : x < 8) (h_y : y < 8) : Met l yX4_gather wsX4_gather ({ frames := 2, cells := 0, slots := 0, locals := 45 }) (rwP G cI cJ [.ref (a 4), .ref (a 2), .int (nI x), .int (nI y)] [oSt a bl, aI cI (a 16) 21 (nF S), aI cI (a 17) 21 (nF D), oTe a ey le, aI cI (a 11) 1920 (oF t)]) (rwQv G [oSt a bl, aI cI (a 16) 21 (nF S), aI cI (a 17) 21 (nF D), oTe a ey le, aI cI (a 11) 1920 (oF t)] (fun (_ : Unit) => True) (fun (_ : Unit) => [oSt a bl, aI cI (a 16) 21 (nF (lS t x y 240)), aI cI (a 17) 21 (nF (lD t x y 240)), oTe a ey le, aI cI (a 11) 1920 (oF t)])) 0 0 (ads [oSt a bl, aI cI (a 16) 21 (nF S), aI cI (a 17) 21 (nF D), oTe a ey le, aI cI (a 11) 1920 (oF t)]) := by
  refine Met.ofW (cc := cX4_gather) (maxL := 6) (ret := none) (by decide) rfl ?_
  intro pg ev s mt args below meth cd s₁ B hml hv
  obtain ⟨rfl, hP, hD0, hK⟩ := hv
  have hx := B.exec
  have hb := B.bytes
  have hr := B.returns
  have hts := atoms_spec (ws := wsX4_gather) B.pre
  have hown : s.vm.findClass RX4 = some mt.cls := findClass_of_methodNamed B.named
  have hlocks := B.notSynchronized
  have hD := ads_self hD0
  generalize hAe : ads [oSt a bl, aI cI (a 16) 21 (nF S), aI cI (a 17) 21 (nF D), oTe a ey le, aI cI (a 11) 1920 (oF t)] = A at hD ⊢
  have hS : va_S A s.heap s.heap [] := va_S.rf
  have hP : va_P G vwCl [oSt a bl, aI cI (a 16) 21 (nF S), aI cI (a 17) 21 (nF D), oTe a ey le, aI cI (a 11) 1920 (oF t)] s.heap := hP
  have hinX4 := (show ∀ w ∈ u_ws RX4 TX4 6, w ∈ wsX4_gather by decide +kernel)
  have fl9 := hts (.fieldLink RX4 9 "SpotRows$Steps" "levelSums" "[I") (by decide +kernel)
  have fl15 := hts (.fieldLink RX4 15 "SpotRows$Steps" "levelDays" "[I") (by decide +kernel)
  have hl := lv_entry ([.ref (a 4), .ref (a 2), .int (nI x), .int (nI y)]) (n := 6) (Nat.le_of_ble_eq_true rfl)
  rw [lg_entry_eq]
  generalize (lg_sl ([.ref (a 4), .ref (a 2), .int (nI x), .int (nI y)]) ++ List.replicate (6 - (lg_sl ([.ref (a 4), .ref (a 2), .int (nI x), .int (nI y)])).length) Slot.unset).toArray = ls at hl ⊢
  have hl : lv_has ls 6 [(0, .ref (a 4)), (1, .ref (a 2)), (2, .int (nI x)), (3, .int (nI y))] := hl
  refine lv_aload_n hx hb dX4_gather_0 rfl (lv_at hl 0 rfl) ?_
  refine va_get (D := G) (own := RX4) (ref := "SpotRows$Steps") (ci := 4) (v := .ref (a 16)) (C := RX4) (T := TX4) (N := 6) hx hb hts hinX4 hown hK.1 hP 0 rfl rfl 0 (by decide) fl9 (fun _ h9 => h9) rfl dX4_gather_1 ?_
  refine lv_iconst (v := nI 0) hx hb dX4_gather_4 (by decide) ?_
  refine crw_v (free := fun _ => True) (va_runS (As := [.ref (a 16), .int (nI 0)]) (rest := []) ⟨hx, hb, hml, hown, hts⟩ (c_J7_fill_53178 l G cI cJ (q := a 16) (n := 21) (f := (nF S)) (v := nI 0) (h3 := by first | assumption | omega)) (va_cwS 2 hts gX4_gather_J7_fill_53178 rfl rfl rfl (by decide +kernel) ⟨Nat.le_of_ble_eq_true rfl, Nat.le_of_ble_eq_true rfl⟩) (preS_rw (wc := [aI cI ((a 16)) 21 (nF S)]) hK hP hD [1] rfl rfl) rfl rfl hl.1 rfl (lv_room (Nat.le_of_ble_eq_true rfl)) dX4_gather_5 ⟨Nat.zero_le _, Nat.zero_le _⟩) hP hD hS [1] rfl [a 16] (fun u => rfl) rfl (fun u_ H locs hw_5 hP hD hS => ?_)
  have hP : va_P G vwCl [oSt a bl, aI cI (a 16) 21 (fil (nF S) (nI 0) 0 21), aI cI (a 17) 21 (nF D), oTe a ey le, aI cI (a 11) 1920 (oF t)] H := hP
  have hD : va_D A [oSt a bl, aI cI (a 16) 21 (fil (nF S) (nI 0) 0 21), aI cI (a 17) 21 (nF D), oTe a ey le, aI cI (a 11) 1920 (oF t)] := hD
  obtain ⟨hP, hD⟩ := extI (g := (nF (lS t x y 0))) hP hD 1 rfl (fun i hi => by show fil (nF S) (nI 0) 0 21 i = nI 0; unfold fil; rw [if_pos ⟨Nat.zero_le i, hi⟩])
  have hP : va_P G vwCl [oSt a bl, aI cI (a 16) 21 (nF (lS t x y 0)), aI cI (a 17) 21 (nF D), oTe a ey le, aI cI (a 11) 1920 (oF t)] H := hP
  have hD : va_D A [oSt a bl, aI cI (a 16) 21 (nF (lS t x y 0)), aI cI (a 17) 21 (nF D), oTe a ey le, aI cI (a 11) 1920 (oF t)] := hD
  refine lv_aload_n hx hb dX4_gather_8 rfl (lv_at hl 0 rfl) ?_
  refine va_get (D := G) (own := RX4) (ref := "SpotRows$Steps") (ci := 4) (v := .ref (a 17)) (C := RX4) (T := TX4) (N := 6) hx hb hts hinX4 hown hK.1 hP 0 rfl rfl 1 (by decide) fl15 (fun _ h9 => h9) rfl dX4_gather_9 ?_
  refine lv_iconst (v := nI 0) hx hb dX4_gather_12 (by decide) ?_
  refine crw_v (free := fun _ => True) (va_runS (As := [.ref (a 17), .int (nI 0)]) (rest := []) ⟨hx, hb, hml, hown, hts⟩ (c_J7_fill_53178 l G cI cJ (q := a 17) (n := 21) (f := (nF D)) (v := nI 0) (h3 := by first | assumption | omega)) (va_cwS 2 hts gX4_gather_J7_fill_53178 rfl rfl rfl (by decide +kernel) ⟨Nat.le_of_ble_eq_true rfl, Nat.le_of_ble_eq_true rfl⟩) (preS_rw (wc := [aI cI ((a 17)) 21 (nF D)]) hK hP hD [2] rfl rfl) rfl rfl hl.1 rfl (lv_room (Nat.le_of_ble_eq_true rfl)) dX4_gather_13 ⟨Nat.zero_le _, Nat.zero_le _⟩) hP hD hS [2] rfl [a 17] (fun u => rfl) rfl (fun u_ H locs hw_13 hP hD hS => ?_)
  have hP : va_P G vwCl [oSt a bl, aI cI (a 16) 21 (nF (lS t x y 0)), aI cI (a 17) 21 (fil (nF D) (nI 0) 0 21), oTe a ey le, aI cI (a 11) 1920 (oF t)] H := hP
  have hD : va_D A [oSt a bl, aI cI (a 16) 21 (nF (lS t x y 0)), aI cI (a 17) 21 (fil (nF D) (nI 0) 0 21), oTe a ey le, aI cI (a 11) 1920 (oF t)] := hD
  obtain ⟨hP, hD⟩ := extI (g := (nF (lD t x y 0))) hP hD 2 rfl (fun i hi => by show fil (nF D) (nI 0) 0 21 i = nI 0; unfold fil; rw [if_pos ⟨Nat.zero_le i, hi⟩])
  have hP : va_P G vwCl [oSt a bl, aI cI (a 16) 21 (nF (lS t x y 0)), aI cI (a 17) 21 (nF (lD t x y 0)), oTe a ey le, aI cI (a 11) 1920 (oF t)] H := hP
  have hD : va_D A [oSt a bl, aI cI (a 16) 21 (nF (lS t x y 0)), aI cI (a 17) 21 (nF (lD t x y 0)), oTe a ey le, aI cI (a 11) 1920 (oF t)] := hD
  refine lv_iconst (v := nI 0) hx hb dX4_gather_16 (by decide) ?_
  refine lv_istore (lv' := [(4, .int (nI 0)), (0, .ref (a 4)), (1, .ref (a 2)), (2, .int (nI x)), (3, .int (nI y))]) hx hb dX4_gather_17 hl (by decide) rfl (fun ls hl => ?_)
  have lp_19 : ∀ (nf : Nat) (k : Nat), (k ≤ 240) → 240 - k < nf → ∀ (H : Heap) (locs : List Loc), va_P G vwCl [oSt a bl, aI cI (a 16) 21 (nF (lS t x y k)), aI cI (a 17) 21 (nF (lD t x y k)), oTe a ey le, aI cI (a 11) 1920 (oF t)] H → va_D A [oSt a bl, aI cI (a 16) 21 (nF (lS t x y k)), aI cI (a 17) 21 (nF (lD t x y k)), oTe a ey le, aI cI (a 11) 1920 (oF t)] → va_S A s.heap H locs → ∀ (ls : Array Slot), lv_has ls 6 [(0, .ref (a 4)), (1, .ref (a 2)), (2, .int (nI x)), (3, .int (nI y)), (4, .int (nI k))] → W pg l ev (headSpec wsX4_gather ({ frames := 2, cells := 0, slots := 0, locals := 45 })).room s mt ([.ref (a 4), .ref (a 2), .int (nI x), .int (nI y)] : List Value).toArray below meth cd H locs 0 0 (MQ below (rwQv G [oSt a bl, aI cI (a 16) 21 (nF S), aI cI (a 17) 21 (nF D), oTe a ey le, aI cI (a 11) 1920 (oF t)] (fun (_ : Unit) => True) (fun (_ : Unit) => [oSt a bl, aI cI (a 16) 21 (nF (lS t x y 240)), aI cI (a 17) 21 (nF (lD t x y 240)), oTe a ey le, aI cI (a 11) 1920 (oF t)])) ([.ref (a 4), .ref (a 2), .int (nI x), .int (nI y)] : List Value).toArray s 0 0 A) (F0 mt 19 ls []) := by
    intro nf
    induction nf with
    | zero => intro k hk hfu; exact absurd hfu (Nat.not_lt_zero _)
    | succ nf ih_19 =>
      intro k hk hfu H locs hP hD hS ls hl
      have f1 := grp_le tb (x * 240 + k)
      refine lv_iload hx hb dX4_gather_19 (lv_at hl 4 rfl) ?_
      refine lv_sipush (v := nI 240) hx hb dX4_gather_21 (by decide) ?_
      refine nv_icmp_ge (tgt := 81) hx hb dX4_gather_24 (by decide) (by omega) (by omega) (fun c_24 => ?_) (fun c_24 => ?_)
      · have hP : va_P G vwCl [oSt a bl, aI cI (a 16) 21 (nF (lS t x y 240)), aI cI (a 17) 21 (nF (lD t x y 240)), oTe a ey le, aI cI (a 11) 1920 (oF t)] H := by
          have ew : ([oSt a bl, aI cI (a 16) 21 (nF (lS t x y k)), aI cI (a 17) 21 (nF (lD t x y k)), oTe a ey le, aI cI (a 11) 1920 (oF t)] : va_W) = [oSt a bl, aI cI (a 16) 21 (nF (lS t x y 240)), aI cI (a 17) 21 (nF (lD t x y 240)), oTe a ey le, aI cI (a 11) 1920 (oF t)] := (wvC rfl (wvC (congrArg (fun z => aI cI (a 16) 21 (nF z)) (show lS t x y k = lS t x y 240 from by rw [show k = 240 from by omega])) (wvC (congrArg (fun z => aI cI (a 17) 21 (nF z)) (show lD t x y k = lD t x y 240 from by rw [show k = 240 from by omega])) (wvC rfl (wvC rfl rfl)))))
          rw [← ew]; exact hP
        exact W.vret hx hb hr (fun zt ht zw => ⟨⟨(), rfl, trivial, by show va_P _ _ _ zt.heap; rw [ht]; exact hP⟩, by rw [hAe]; exact hS.F ht⟩) hS.2.2 dX4_gather_81
      refine lv_aload_n hx hb dX4_gather_27 rfl (lv_at hl 1 rfl) ?_
      refine lv_iload_n hx hb dX4_gather_28 rfl (lv_at hl 2 rfl) ?_
      refine lv_iload_n hx hb dX4_gather_29 rfl (lv_at hl 3 rfl) ?_
      refine lv_iload hx hb dX4_gather_30 (lv_at hl 4 rfl) ?_
      refine cro_i (va_runV (As := [.int (nI x), .int (nI y), .int (nI k)]) (rest := []) ⟨hx, hb, hml, hown, hts⟩ (c_X5_haveBoth l G cI cJ (a := a) (ey := ey) (le := le) (t := t) (x := x) (y := y) (d := k) (tb := by first | assumption | omega) (h_x := by first | assumption | omega) (h_y := by first | assumption | omega) (hd := by first | assumption | omega)) (cwV 3 hts gX4_gather_X5_haveBoth rfl rfl rfl (by decide +kernel) ⟨Nat.le_of_ble_eq_true rfl, Nat.le_of_ble_eq_true rfl⟩) (preV_ro (wc := [oTe a ey le, aI cI (a 11) 1920 (oF t)]) hK hP [3, 4] rfl 5 3 rfl rfl rfl) rfl rfl hl.1 rfl (lv_room (Nat.le_of_ble_eq_true rfl)) dX4_gather_32 ⟨Nat.zero_le _, Nat.zero_le _⟩) ?_
      refine nb_if_eq (tgt := 75) hx hb dX4_gather_35 (by decide) (fun c_35 => ?_) (fun c_35 => ?_)
      · refine lv_iinc (v := nI (k + 1)) (lv' := [(4, .int (nI (k + 1))), (0, .ref (a 4)), (1, .ref (a 2)), (2, .int (nI x)), (3, .int (nI y))]) hx hb dX4_gather_75 hl (k := 4) rfl (nI_add k 1) (by decide) rfl (fun ls hl => ?_)
        refine lv_goto (tgt := 19) hx hb dX4_gather_78 (by decide) ?_
        have hw_19 : ([oSt a bl, aI cI (a 16) 21 (nF (lS t x y k)), aI cI (a 17) 21 (nF (lD t x y k)), oTe a ey le, aI cI (a 11) 1920 (oF t)] : va_W) = [oSt a bl, aI cI (a 16) 21 (nF (lS t x y (k + 1))), aI cI (a 17) 21 (nF (lD t x y (k + 1))), oTe a ey le, aI cI (a 11) 1920 (oF t)] := (wvC rfl (wvC (congrArg (fun z => aI cI (a 16) 21 (nF z)) (show lS t x y k = lS t x y (k + 1) from by first | exact lS_y c_35 | exact (lS_n c_35).symm)) (wvC (congrArg (fun z => aI cI (a 17) 21 (nF z)) (show lD t x y k = lD t x y (k + 1) from by first | exact lD_y c_35 | exact (lD_n c_35).symm)) (wvC rfl (wvC rfl rfl)))))
        exact ih_19 (k + 1) (by first | rfl | omega | (simp_all; done)) (by omega) H locs (hw_19 ▸ hP) (hw_19 ▸ hD) hS ls (lvcv (l := [(0, .ref (a 4)), (1, .ref (a 2)), (2, .int (nI x)), (3, .int (nI y)), (4, .int (nI (k + 1)))]) (lv_sub hl [1, 2, 3, 4, 0] rfl) (lvC (lvC (lvC (lvC (lvC rfl))))))
      refine lv_aload_n hx hb dX4_gather_38 rfl (lv_at hl 1 rfl) ?_
      refine lv_iload_n hx hb dX4_gather_39 rfl (lv_at hl 2 rfl) ?_
      refine lv_iload hx hb dX4_gather_40 (lv_at hl 4 rfl) ?_
      refine cro_i (va_runV (As := [.int (nI x), .int (nI k)]) (rest := []) ⟨hx, hb, hml, hown, hts⟩ (c_X5_groupsOf l G cI cJ (a := a) (ey := ey) (le := le) (t := t) (e := x) (d := k) (tb := by first | assumption | omega) (he := by first | assumption | omega) (hd := by first | assumption | omega) (hn := c_35.1)) (cwV 2 hts gX4_gather_X5_groupsOf rfl rfl rfl (by decide +kernel) ⟨Nat.le_of_ble_eq_true rfl, Nat.le_of_ble_eq_true rfl⟩) (preV_ro (wc := [oTe a ey le, aI cI (a 11) 1920 (oF t)]) hK hP [3, 4] rfl 5 3 rfl rfl rfl) rfl rfl hl.1 rfl (lv_room (Nat.le_of_ble_eq_true rfl)) dX4_gather_42 ⟨Nat.zero_le _, Nat.zero_le _⟩) ?_
      refine lv_istore (lv' := [(5, .int (nI (grp t (x * 240 + k)))), (0, .ref (a 4)), (1, .ref (a 2)), (2, .int (nI x)), (3, .int (nI y)), (4, .int (nI k))]) hx hb dX4_gather_45 hl (by decide) rfl (fun ls hl => ?_)
      refine lv_aload_n hx hb dX4_gather_47 rfl (lv_at hl 1 rfl) ?_
      refine va_get (D := G) (own := RX4) (ref := "SpotRows$Steps") (ci := 4) (v := .ref (a 16)) (C := RX4) (T := TX4) (N := 6) hx hb hts hinX4 hown hK.1 hP 0 rfl rfl 0 (by decide) fl9 (fun _ h9 => h9) rfl dX4_gather_48 ?_
      refine lv_iload hx hb dX4_gather_51 (lv_at hl 0 rfl) ?_
      refine lv_dup2_11 hx hb dX4_gather_53 rfl rfl ?_
      refine ld_nF hx hb hK hP 1 (k := grp t (x * 240 + k)) rfl (by omega) (by decide) dX4_gather_54 ?_
      refine lv_aload_n hx hb dX4_gather_55 rfl (lv_at hl 2 rfl) ?_
      refine lv_iload_n hx hb dX4_gather_56 rfl (lv_at hl 4 rfl) ?_
      refine lv_iload hx hb dX4_gather_57 (lv_at hl 5 rfl) ?_
      refine cro_i (va_runV (As := [.int (nI y), .int (nI k)]) (rest := [.int (nI ((lS t x y k) (grp t (x * 240 + k)))), .int (nI (grp t (x * 240 + k))), .ref (a 16)]) ⟨hx, hb, hml, hown, hts⟩ (c_X5_groupsOf l G cI cJ (a := a) (ey := ey) (le := le) (t := t) (e := y) (d := k) (tb := by first | assumption | omega) (he := by first | assumption | omega) (hd := by first | assumption | omega) (hn := c_35.2)) (cwV 2 hts gX4_gather_X5_groupsOf rfl rfl rfl (by decide +kernel) ⟨Nat.le_of_ble_eq_true rfl, Nat.le_of_ble_eq_true rfl⟩) (preV_ro (wc := [oTe a ey le, aI cI (a 11) 1920 (oF t)]) hK hP [3, 4] rfl 5 3 rfl rfl rfl) rfl rfl hl.1 rfl (lv_room (Nat.le_of_ble_eq_true rfl)) dX4_gather_59 ⟨Nat.zero_le _, Nat.zero_le _⟩) ?_
      refine lv_iadd hx hb dX4_gather_62 ?_
      refine toi (nI_add ((lS t x y k) (grp t (x * 240 + k))) (grp t (y * 240 + k))) ?_
      refine st_nF hx hb hK hP hD hS 1 (k := grp t (x * 240 + k)) rfl (by omega) (by decide) dX4_gather_63 (fun H locs hP hD hS => ?_)
      have hP : va_P G vwCl [oSt a bl, aI cI (a 16) 21 (nF (upN (lS t x y k) (grp t (x * 240 + k)) ((lS t x y k) (grp t (x * 240 + k)) + grp t (y * 240 + k)))), aI cI (a 17) 21 (nF (lD t x y k)), oTe a ey le, aI cI (a 11) 1920 (oF t)] H := hP
      have hD : va_D A [oSt a bl, aI cI (a 16) 21 (nF (upN (lS t x y k) (grp t (x * 240 + k)) ((lS t x y k) (grp t (x * 240 + k)) + grp t (y * 240 + k)))), aI cI (a 17) 21 (nF (lD t x y k)), oTe a ey le, aI cI (a 11) 1920 (oF t)] := hD
      refine lv_aload_n hx hb dX4_gather_64 rfl (lv_at hl 1 rfl) ?_
      refine va_get (D := G) (own := RX4) (ref := "SpotRows$Steps") (ci := 4) (v := .ref (a 17)) (C := RX4) (T := TX4) (N := 6) hx hb hts hinX4 hown hK.1 hP 0 rfl rfl 1 (by decide) fl15 (fun _ h9 => h9) rfl dX4_gather_65 ?_
      refine lv_iload hx hb dX4_gather_68 (lv_at hl 0 rfl) ?_
      refine lv_dup2_11 hx hb dX4_gather_70 rfl rfl ?_
      refine ld_nF hx hb hK hP 2 (k := grp t (x * 240 + k)) rfl (by omega) (by decide) dX4_gather_71 ?_
      refine lv_iconst (v := nI 1) hx hb dX4_gather_72 (by decide) ?_
      refine lv_iadd hx hb dX4_gather_73 ?_
      refine toi (nI_add ((lD t x y k) (grp t (x * 240 + k))) 1) ?_
      refine st_nF hx hb hK hP hD hS 2 (k := grp t (x * 240 + k)) rfl (by omega) (by decide) dX4_gather_74 (fun H locs hP hD hS => ?_)
      have hP : va_P G vwCl [oSt a bl, aI cI (a 16) 21 (nF (upN (lS t x y k) (grp t (x * 240 + k)) ((lS t x y k) (grp t (x * 240 + k)) + grp t (y * 240 + k)))), aI cI (a 17) 21 (nF (upN (lD t x y k) (grp t (x * 240 + k)) ((lD t x y k) (grp t (x * 240 + k)) + 1))), oTe a ey le, aI cI (a 11) 1920 (oF t)] H := hP
      have hD : va_D A [oSt a bl, aI cI (a 16) 21 (nF (upN (lS t x y k) (grp t (x * 240 + k)) ((lS t x y k) (grp t (x * 240 + k)) + grp t (y * 240 + k)))), aI cI (a 17) 21 (nF (upN (lD t x y k) (grp t (x * 240 + k)) ((lD t x y k) (grp t (x * 240 + k)) + 1))), oTe a ey le, aI cI (a 11) 1920 (oF t)] := hD
      refine lv_iinc (v := nI (k + 1)) (lv' := [(4, .int (nI (k + 1))), (5, .int (nI (grp t (x * 240 + k)))), (0, .ref (a 4)), (1, .ref (a 2)), (2, .int (nI x)), (3, .int (nI y))]) hx hb dX4_gather_75 hl (k := 5) rfl (nI_add k 1) (by decide) rfl (fun ls hl => ?_)
      refine lv_goto (tgt := 19) hx hb dX4_gather_78 (by decide) ?_
      have hw_19 : ([oSt a bl, aI cI (a 16) 21 (nF (upN (lS t x y k) (grp t (x * 240 + k)) ((lS t x y k) (grp t (x * 240 + k)) + grp t (y * 240 + k)))), aI cI (a 17) 21 (nF (upN (lD t x y k) (grp t (x * 240 + k)) ((lD t x y k) (grp t (x * 240 + k)) + 1))), oTe a ey le, aI cI (a 11) 1920 (oF t)] : va_W) = [oSt a bl, aI cI (a 16) 21 (nF (lS t x y (k + 1))), aI cI (a 17) 21 (nF (lD t x y (k + 1))), oTe a ey le, aI cI (a 11) 1920 (oF t)] := (wvC rfl (wvC (congrArg (fun z => aI cI (a 16) 21 (nF z)) (show upN (lS t x y k) (grp t (x * 240 + k)) ((lS t x y k) (grp t (x * 240 + k)) + grp t (y * 240 + k)) = lS t x y (k + 1) from by first | exact lS_y c_35 | exact (lS_n c_35).symm)) (wvC (congrArg (fun z => aI cI (a 17) 21 (nF z)) (show upN (lD t x y k) (grp t (x * 240 + k)) ((lD t x y k) (grp t (x * 240 + k)) + 1) = lD t x y (k + 1) from by first | exact lD_y c_35 | exact (lD_n c_35).symm)) (wvC rfl (wvC rfl rfl)))))
      exact ih_19 (k + 1) (by first | rfl | omega | (simp_all; done)) (by omega) H locs (hw_19 ▸ hP) (hw_19 ▸ hD) hS ls (lvcv (l := [(0, .ref (a 4)), (1, .ref (a 2)), (2, .int (nI x)), (3, .int (nI y)), (4, .int (nI (k + 1)))]) (lv_sub hl [2, 3, 4, 5, 0] rfl) (lvC (lvC (lvC (lvC (lvC rfl))))))
  exact lp_19 (240 - 0 + 1) 0 (by first | rfl | omega | (simp_all; done)) (by omega) _ _ hP hD hS ls (lvcv (l := [(0, .ref (a 4)), (1, .ref (a 2)), (2, .int (nI x)), (3, .int (nI y)), (4, .int (nI 0))]) (lv_sub hl [1, 2, 3, 4, 0] rfl) (lvC (lvC (lvC (lvC (lvC rfl))))))

set_option maxHeartbeats 400000 in
set_option maxRecDepth 100000 in
theorem c_X4_lastFalls (l : Launch) (G : va_G) (cI cJ : ClassId) (a : Nat → Nat) (n : Nat) (bS : Nat → Nat) (bD : Nat → Nat) (hn : 2 ≤ n ∧ n ≤ 21) (hb0 : ∀ j, j < n → bS j ≤ 4800 ∧ bD j ≤ 240) : Met l yX4_lastFalls wsX4_lastFalls ({ frames := 0, cells := 0, slots := 0, locals := 0 }) (roP G cI cJ [.ref (a 4)] [oSt a (nI n), aI cI (a 18) 21 (nF bS), aI cI (a 19) 21 (nF bD)]) (vp_Si (fun r => r = bi (bS (n - 1) * bD (n - 1 - 1) < bS (n - 1 - 1) * bD (n - 1)))) 0 0 (fun _ => False) := by
  refine Met.ofW (cc := cX4_lastFalls) (maxL := 2) (ret := (some .boolean)) (by decide) rfl ?_
  intro pg ev s mt args below meth cd s₁ B hml hv
  obtain ⟨rfl, hP, hK⟩ := hv
  have hx := B.exec
  have hb := B.bytes
  have hr := B.returns
  have hts := atoms_spec (ws := wsX4_lastFalls) B.pre
  have hown : s.vm.findClass RX4 = some mt.cls := findClass_of_methodNamed B.named
  have hlocks := B.notSynchronized
  have hP : va_P G vwCl [oSt a (nI n), aI cI (a 18) 21 (nF bS), aI cI (a 19) 21 (nF bD)] s.heap := hP
  have hinX4 := (show ∀ w ∈ u_ws RX4 TX4 6, w ∈ wsX4_lastFalls by decide +kernel)
  have fl27 := hts (.fieldLink RX4 27 "SpotRows$Steps" "blocks" "I") (by decide +kernel)
  have fl18 := hts (.fieldLink RX4 18 "SpotRows$Steps" "blockSums" "[I") (by decide +kernel)
  have fl21 := hts (.fieldLink RX4 21 "SpotRows$Steps" "blockDays" "[I") (by decide +kernel)
  have hl := lv_entry ([.ref (a 4)]) (n := 2) (Nat.le_of_ble_eq_true rfl)
  rw [lg_entry_eq]
  generalize (lg_sl ([.ref (a 4)]) ++ List.replicate (2 - (lg_sl ([.ref (a 4)])).length) Slot.unset).toArray = ls at hl ⊢
  have hl : lv_has ls 2 [(0, .ref (a 4))] := hl
  have f1 := hb0 (n - 1) (by omega)
  have f2 := hb0 (n - 1 - 1) (by omega)
  have f3 := mulB f1.1 f2.2
  have f4 := mulB f2.1 f1.2
  refine lv_aload_n hx hb dX4_lastFalls_0 rfl (lv_at hl 0 rfl) ?_
  refine va_get (D := G) (own := RX4) (ref := "SpotRows$Steps") (ci := 4) (v := .int (nI n)) (C := RX4) (T := TX4) (N := 6) hx hb hts hinX4 hown hK.1 hP 0 rfl rfl 5 (by decide) fl27 (fun _ h9 => h9) rfl dX4_lastFalls_1 ?_
  refine lv_iconst (v := nI 1) hx hb dX4_lastFalls_4 (by decide) ?_
  refine lv_isub hx hb dX4_lastFalls_5 ?_
  refine toi (pk_sub (a := n) (b := 1) (by omega)) ?_
  refine lv_istore_n (lv' := [(1, .int (nI (n - 1))), (0, .ref (a 4))]) hx hb dX4_lastFalls_6 rfl hl (by decide) rfl (fun ls hl => ?_)
  refine lv_aload_n hx hb dX4_lastFalls_7 rfl (lv_at hl 1 rfl) ?_
  refine va_get (D := G) (own := RX4) (ref := "SpotRows$Steps") (ci := 4) (v := .ref (a 18)) (C := RX4) (T := TX4) (N := 6) hx hb hts hinX4 hown hK.1 hP 0 rfl rfl 2 (by decide) fl18 (fun _ h9 => h9) rfl dX4_lastFalls_8 ?_
  refine lv_iload_n hx hb dX4_lastFalls_11 rfl (lv_at hl 0 rfl) ?_
  refine ld_nF hx hb hK hP 1 (k := n - 1) rfl (by omega) (by decide) dX4_lastFalls_12 ?_
  refine lv_aload_n hx hb dX4_lastFalls_13 rfl (lv_at hl 1 rfl) ?_
  refine va_get (D := G) (own := RX4) (ref := "SpotRows$Steps") (ci := 4) (v := .ref (a 19)) (C := RX4) (T := TX4) (N := 6) hx hb hts hinX4 hown hK.1 hP 0 rfl rfl 3 (by decide) fl21 (fun _ h9 => h9) rfl dX4_lastFalls_14 ?_
  refine lv_iload_n hx hb dX4_lastFalls_17 rfl (lv_at hl 0 rfl) ?_
  refine lv_iconst (v := nI 1) hx hb dX4_lastFalls_18 (by decide) ?_
  refine lv_isub hx hb dX4_lastFalls_19 ?_
  refine toi (pk_sub (a := (n - 1)) (b := 1) (by omega)) ?_
  refine ld_nF hx hb hK hP 2 (k := n - 1 - 1) rfl (by omega) (by decide) dX4_lastFalls_20 ?_
  refine lv_imul hx hb dX4_lastFalls_21 ?_
  refine toi (pk_mul (bS (n - 1)) (bD (n - 1 - 1))) ?_
  refine lv_aload_n hx hb dX4_lastFalls_22 rfl (lv_at hl 1 rfl) ?_
  refine va_get (D := G) (own := RX4) (ref := "SpotRows$Steps") (ci := 4) (v := .ref (a 18)) (C := RX4) (T := TX4) (N := 6) hx hb hts hinX4 hown hK.1 hP 0 rfl rfl 2 (by decide) fl18 (fun _ h9 => h9) rfl dX4_lastFalls_23 ?_
  refine lv_iload_n hx hb dX4_lastFalls_26 rfl (lv_at hl 0 rfl) ?_
  refine lv_iconst (v := nI 1) hx hb dX4_lastFalls_27 (by decide) ?_
  refine lv_isub hx hb dX4_lastFalls_28 ?_
  refine toi (pk_sub (a := (n - 1)) (b := 1) (by omega)) ?_
  refine ld_nF hx hb hK hP 1 (k := n - 1 - 1) rfl (by omega) (by decide) dX4_lastFalls_29 ?_
  refine lv_aload_n hx hb dX4_lastFalls_30 rfl (lv_at hl 1 rfl) ?_
  refine va_get (D := G) (own := RX4) (ref := "SpotRows$Steps") (ci := 4) (v := .ref (a 19)) (C := RX4) (T := TX4) (N := 6) hx hb hts hinX4 hown hK.1 hP 0 rfl rfl 3 (by decide) fl21 (fun _ h9 => h9) rfl dX4_lastFalls_31 ?_
  refine lv_iload_n hx hb dX4_lastFalls_34 rfl (lv_at hl 0 rfl) ?_
  refine ld_nF hx hb hK hP 2 (k := n - 1) rfl (by omega) (by decide) dX4_lastFalls_35 ?_
  refine lv_imul hx hb dX4_lastFalls_36 ?_
  refine toi (pk_mul (bS (n - 1 - 1)) (bD (n - 1))) ?_
  refine nv_icmp_ge (tgt := 44) hx hb dX4_lastFalls_37 (by decide) (by omega) (by omega) (fun c_37 => ?_) (fun c_37 => ?_)
  · refine lv_iconst (v := nI 0) hx hb dX4_lastFalls_44 (by decide) ?_
    exact W.zret (v := nI 0) hx hb hr rfl (fun zt ht zw => ⟨_, rfl, (show nI 0 = bi (bS (n - 1) * bD (n - 1 - 1) < bS (n - 1 - 1) * bD (n - 1)) from (bi_f (by first | rfl | omega | (simp_all; done))).symm), ht⟩) (fun q hq => absurd hq List.not_mem_nil) dX4_lastFalls_45
  refine lv_iconst (v := nI 1) hx hb dX4_lastFalls_40 (by decide) ?_
  refine lv_goto (tgt := 45) hx hb dX4_lastFalls_41 (by decide) ?_
  exact W.zret (v := nI 1) hx hb hr rfl (fun zt ht zw => ⟨_, rfl, (show nI 1 = bi (bS (n - 1) * bD (n - 1 - 1) < bS (n - 1 - 1) * bD (n - 1)) from (bi_t (by first | rfl | omega | (simp_all; done))).symm), ht⟩) (fun q hq => absurd hq List.not_mem_nil) dX4_lastFalls_45

set_option maxHeartbeats 400000 in
set_option maxRecDepth 100000 in
theorem c_X4_joinFalling (l : Launch) (G : va_G) (cI cJ : ClassId) (a : Nat → Nat) (n : Nat) (S : Nat → Nat) (D : Nat → Nat) (bS : Nat → Nat) (bD : Nat → Nat) (bF : Nat → Nat) (g : Nat) (hg : g ≤ 21) (hpv : PV S D bS bD bF n g (n - 1)) (hS1 : sm S g ≤ 4800) (hD1 : sm D g ≤ 240) : Met l yX4_joinFalling wsX4_joinFalling ({ frames := 1, cells := 0, slots := 0, locals := 21 }) (rwP G cI cJ [.ref (a 4)] [oSt a (nI n), aI cI (a 18) 21 (nF bS), aI cI (a 19) 21 (nF bD)]) (rwQv G [oSt a (nI n), aI cI (a 18) 21 (nF bS), aI cI (a 19) 21 (nF bD)] (fun (u : Nat × (Nat → Nat) × (Nat → Nat)) => match u with | (n2, bS2, bD2) => PV S D bS2 bD2 bF n2 g n2) (fun (u : Nat × (Nat → Nat) × (Nat → Nat)) => match u with | (n2, bS2, bD2) => [oSt a (nI n2), aI cI (a 18) 21 (nF bS2), aI cI (a 19) 21 (nF bD2)])) 0 0 (ads [oSt a (nI n), aI cI (a 18) 21 (nF bS), aI cI (a 19) 21 (nF bD)]) := by
  refine Met.ofW (cc := cX4_joinFalling) (maxL := 1) (ret := none) (by decide) rfl ?_
  intro pg ev s mt args below meth cd s₁ B hml hv
  obtain ⟨rfl, hP, hD0, hK⟩ := hv
  have hx := B.exec
  have hb := B.bytes
  have hr := B.returns
  have hts := atoms_spec (ws := wsX4_joinFalling) B.pre
  have hown : s.vm.findClass RX4 = some mt.cls := findClass_of_methodNamed B.named
  have hlocks := B.notSynchronized
  have hD := ads_self hD0
  generalize hAe : ads [oSt a (nI n), aI cI (a 18) 21 (nF bS), aI cI (a 19) 21 (nF bD)] = A at hD ⊢
  have hS : va_S A s.heap s.heap [] := va_S.rf
  have hP : va_P G vwCl [oSt a (nI n), aI cI (a 18) 21 (nF bS), aI cI (a 19) 21 (nF bD)] s.heap := hP
  have hinX4 := (show ∀ w ∈ u_ws RX4 TX4 6, w ∈ wsX4_joinFalling by decide +kernel)
  have fl27 := hts (.fieldLink RX4 27 "SpotRows$Steps" "blocks" "I") (by decide +kernel)
  have fl18 := hts (.fieldLink RX4 18 "SpotRows$Steps" "blockSums" "[I") (by decide +kernel)
  have fl21 := hts (.fieldLink RX4 21 "SpotRows$Steps" "blockDays" "[I") (by decide +kernel)
  have hl := lv_entry ([.ref (a 4)]) (n := 1) (Nat.le_of_ble_eq_true rfl)
  rw [lg_entry_eq]
  generalize (lg_sl ([.ref (a 4)]) ++ List.replicate (1 - (lg_sl ([.ref (a 4)])).length) Slot.unset).toArray = ls at hl ⊢
  have hl : lv_has ls 1 [(0, .ref (a 4))] := hl
  have lp_0 : ∀ (nf : Nat) (k : Nat) (V : Nat → Nat) (N : Nat → Nat), (PV S D V N bF k g (k - 1)) → k < nf → ∀ (H : Heap) (locs : List Loc), va_P G vwCl [oSt a (nI k), aI cI (a 18) 21 (nF V), aI cI (a 19) 21 (nF N)] H → va_D A [oSt a (nI k), aI cI (a 18) 21 (nF V), aI cI (a 19) 21 (nF N)] → va_S A s.heap H locs → ∀ (ls : Array Slot), lv_has ls 1 [(0, .ref (a 4))] → W pg l ev (headSpec wsX4_joinFalling ({ frames := 1, cells := 0, slots := 0, locals := 21 })).room s mt ([.ref (a 4)] : List Value).toArray below meth cd H locs 0 0 (MQ below (rwQv G [oSt a (nI n), aI cI (a 18) 21 (nF bS), aI cI (a 19) 21 (nF bD)] (fun (u : Nat × (Nat → Nat) × (Nat → Nat)) => match u with | (n2, bS2, bD2) => PV S D bS2 bD2 bF n2 g n2) (fun (u : Nat × (Nat → Nat) × (Nat → Nat)) => match u with | (n2, bS2, bD2) => [oSt a (nI n2), aI cI (a 18) 21 (nF bS2), aI cI (a 19) 21 (nF bD2)])) ([.ref (a 4)] : List Value).toArray s 0 0 A) (F0 mt 0 ls []) := by
    intro nf
    induction nf with
    | zero => intro k V N hp2 hfu; exact absurd hfu (Nat.not_lt_zero _)
    | succ nf ih_0 =>
      intro k V N hp2 hfu H locs hP hD hS ls hl
      have hkg := hp2.1.1
      refine lv_aload_n hx hb dX4_joinFalling_0 rfl (lv_at hl 0 rfl) ?_
      refine va_get (D := G) (own := RX4) (ref := "SpotRows$Steps") (ci := 4) (v := .int (nI k)) (C := RX4) (T := TX4) (N := 6) hx hb hts hinX4 hown hK.1 hP 0 rfl rfl 5 (by decide) fl27 (fun _ h9 => h9) rfl dX4_joinFalling_1 ?_
      refine lv_iconst (v := nI 1) hx hb dX4_joinFalling_4 (by decide) ?_
      refine nv_icmp_le (tgt := 78) hx hb dX4_joinFalling_5 (by decide) (by omega) (by omega) (fun c_5 => ?_) (fun c_5 => ?_)
      · exact W.vret hx hb hr (fun zt ht zw => ⟨⟨(k, V, N), rfl, (by first | exact PV_ok hp2 (Or.inl (by omega)) | exact PV_ok hp2 (Or.inr c_12)), by show va_P _ _ _ zt.heap; rw [ht]; exact hP⟩, by rw [hAe]; exact hS.F ht⟩) hS.2.2 dX4_joinFalling_78
      refine lv_aload_n hx hb dX4_joinFalling_8 rfl (lv_at hl 0 rfl) ?_
      refine cro_i (va_runV (As := []) (rest := []) ⟨hx, hb, hml, hown, hts⟩ (c_X4_lastFalls l G cI cJ (a := a) (n := k) (bS := V) (bD := N) (hn := by omega) (hb0 := fun j hj => ⟨Nat.le_trans (PV_b hp2 hj).1 hS1, Nat.le_trans (PV_b hp2 hj).2.1 hD1⟩)) (cwV 0 hts gX4_joinFalling_X4_lastFalls rfl rfl rfl (by decide +kernel) ⟨Nat.le_of_ble_eq_true rfl, Nat.le_of_ble_eq_true rfl⟩) (preV_ro (wc := [oSt a (nI k), aI cI (a 18) 21 (nF V), aI cI (a 19) 21 (nF N)]) hK hP [0, 1, 2] rfl 4 0 rfl rfl rfl) rfl rfl hl.1 rfl (lv_room (Nat.le_of_ble_eq_true rfl)) dX4_joinFalling_9 ⟨Nat.zero_le _, Nat.zero_le _⟩) ?_
      refine nb_if_eq (tgt := 78) hx hb dX4_joinFalling_12 (by decide) (fun c_12 => ?_) (fun c_12 => ?_)
      · exact W.vret hx hb hr (fun zt ht zw => ⟨⟨(k, V, N), rfl, (by first | exact PV_ok hp2 (Or.inl (by omega)) | exact PV_ok hp2 (Or.inr c_12)), by show va_P _ _ _ zt.heap; rw [ht]; exact hP⟩, by rw [hAe]; exact hS.F ht⟩) hS.2.2 dX4_joinFalling_78
      refine lv_aload_n hx hb dX4_joinFalling_15 rfl (lv_at hl 0 rfl) ?_
      refine va_get (D := G) (own := RX4) (ref := "SpotRows$Steps") (ci := 4) (v := .ref (a 18)) (C := RX4) (T := TX4) (N := 6) hx hb hts hinX4 hown hK.1 hP 0 rfl rfl 2 (by decide) fl18 (fun _ h9 => h9) rfl dX4_joinFalling_16 ?_
      refine lv_aload_n hx hb dX4_joinFalling_19 rfl (lv_at hl 0 rfl) ?_
      refine va_get (D := G) (own := RX4) (ref := "SpotRows$Steps") (ci := 4) (v := .int (nI k)) (C := RX4) (T := TX4) (N := 6) hx hb hts hinX4 hown hK.1 hP 0 rfl rfl 5 (by decide) fl27 (fun _ h9 => h9) rfl dX4_joinFalling_20 ?_
      refine lv_iconst (v := nI 2) hx hb dX4_joinFalling_23 (by decide) ?_
      refine lv_isub hx hb dX4_joinFalling_24 ?_
      refine toi (pk_sub (a := k) (b := 2) (by omega)) ?_
      refine lv_dup2_11 hx hb dX4_joinFalling_25 rfl rfl ?_
      refine ld_nF hx hb hK hP 1 (k := k - 2) rfl (by omega) (by decide) dX4_joinFalling_26 ?_
      refine lv_aload_n hx hb dX4_joinFalling_27 rfl (lv_at hl 0 rfl) ?_
      refine va_get (D := G) (own := RX4) (ref := "SpotRows$Steps") (ci := 4) (v := .ref (a 18)) (C := RX4) (T := TX4) (N := 6) hx hb hts hinX4 hown hK.1 hP 0 rfl rfl 2 (by decide) fl18 (fun _ h9 => h9) rfl dX4_joinFalling_28 ?_
      refine lv_aload_n hx hb dX4_joinFalling_31 rfl (lv_at hl 0 rfl) ?_
      refine va_get (D := G) (own := RX4) (ref := "SpotRows$Steps") (ci := 4) (v := .int (nI k)) (C := RX4) (T := TX4) (N := 6) hx hb hts hinX4 hown hK.1 hP 0 rfl rfl 5 (by decide) fl27 (fun _ h9 => h9) rfl dX4_joinFalling_32 ?_
      refine lv_iconst (v := nI 1) hx hb dX4_joinFalling_35 (by decide) ?_
      refine lv_isub hx hb dX4_joinFalling_36 ?_
      refine toi (pk_sub (a := k) (b := 1) (by omega)) ?_
      refine ld_nF hx hb hK hP 1 (k := k - 1) rfl (by omega) (by decide) dX4_joinFalling_37 ?_
      refine lv_iadd hx hb dX4_joinFalling_38 ?_
      refine toi (nI_add (V (k - 2)) (V (k - 1))) ?_
      refine st_nF hx hb hK hP hD hS 1 (k := k - 2) rfl (by omega) (by decide) dX4_joinFalling_39 (fun H locs hP hD hS => ?_)
      have hP : va_P G vwCl [oSt a (nI k), aI cI (a 18) 21 (nF (upN V (k - 2) (V (k - 2) + V (k - 1)))), aI cI (a 19) 21 (nF N)] H := hP
      have hD : va_D A [oSt a (nI k), aI cI (a 18) 21 (nF (upN V (k - 2) (V (k - 2) + V (k - 1)))), aI cI (a 19) 21 (nF N)] := hD
      refine lv_aload_n hx hb dX4_joinFalling_40 rfl (lv_at hl 0 rfl) ?_
      refine va_get (D := G) (own := RX4) (ref := "SpotRows$Steps") (ci := 4) (v := .ref (a 19)) (C := RX4) (T := TX4) (N := 6) hx hb hts hinX4 hown hK.1 hP 0 rfl rfl 3 (by decide) fl21 (fun _ h9 => h9) rfl dX4_joinFalling_41 ?_
      refine lv_aload_n hx hb dX4_joinFalling_44 rfl (lv_at hl 0 rfl) ?_
      refine va_get (D := G) (own := RX4) (ref := "SpotRows$Steps") (ci := 4) (v := .int (nI k)) (C := RX4) (T := TX4) (N := 6) hx hb hts hinX4 hown hK.1 hP 0 rfl rfl 5 (by decide) fl27 (fun _ h9 => h9) rfl dX4_joinFalling_45 ?_
      refine lv_iconst (v := nI 2) hx hb dX4_joinFalling_48 (by decide) ?_
      refine lv_isub hx hb dX4_joinFalling_49 ?_
      refine toi (pk_sub (a := k) (b := 2) (by omega)) ?_
      refine lv_dup2_11 hx hb dX4_joinFalling_50 rfl rfl ?_
      refine ld_nF hx hb hK hP 2 (k := k - 2) rfl (by omega) (by decide) dX4_joinFalling_51 ?_
      refine lv_aload_n hx hb dX4_joinFalling_52 rfl (lv_at hl 0 rfl) ?_
      refine va_get (D := G) (own := RX4) (ref := "SpotRows$Steps") (ci := 4) (v := .ref (a 19)) (C := RX4) (T := TX4) (N := 6) hx hb hts hinX4 hown hK.1 hP 0 rfl rfl 3 (by decide) fl21 (fun _ h9 => h9) rfl dX4_joinFalling_53 ?_
      refine lv_aload_n hx hb dX4_joinFalling_56 rfl (lv_at hl 0 rfl) ?_
      refine va_get (D := G) (own := RX4) (ref := "SpotRows$Steps") (ci := 4) (v := .int (nI k)) (C := RX4) (T := TX4) (N := 6) hx hb hts hinX4 hown hK.1 hP 0 rfl rfl 5 (by decide) fl27 (fun _ h9 => h9) rfl dX4_joinFalling_57 ?_
      refine lv_iconst (v := nI 1) hx hb dX4_joinFalling_60 (by decide) ?_
      refine lv_isub hx hb dX4_joinFalling_61 ?_
      refine toi (pk_sub (a := k) (b := 1) (by omega)) ?_
      refine ld_nF hx hb hK hP 2 (k := k - 1) rfl (by omega) (by decide) dX4_joinFalling_62 ?_
      refine lv_iadd hx hb dX4_joinFalling_63 ?_
      refine toi (nI_add (N (k - 2)) (N (k - 1))) ?_
      refine st_nF hx hb hK hP hD hS 2 (k := k - 2) rfl (by omega) (by decide) dX4_joinFalling_64 (fun H locs hP hD hS => ?_)
      have hP : va_P G vwCl [oSt a (nI k), aI cI (a 18) 21 (nF (upN V (k - 2) (V (k - 2) + V (k - 1)))), aI cI (a 19) 21 (nF (upN N (k - 2) (N (k - 2) + N (k - 1))))] H := hP
      have hD : va_D A [oSt a (nI k), aI cI (a 18) 21 (nF (upN V (k - 2) (V (k - 2) + V (k - 1)))), aI cI (a 19) 21 (nF (upN N (k - 2) (N (k - 2) + N (k - 1))))] := hD
      refine lv_aload_n hx hb dX4_joinFalling_65 rfl (lv_at hl 0 rfl) ?_
      refine lv_dup hx hb dX4_joinFalling_66 rfl ?_
      refine va_get (D := G) (own := RX4) (ref := "SpotRows$Steps") (ci := 4) (v := .int (nI k)) (C := RX4) (T := TX4) (N := 6) hx hb hts hinX4 hown hK.1 hP 0 rfl rfl 5 (by decide) fl27 (fun _ h9 => h9) rfl dX4_joinFalling_67 ?_
      refine lv_iconst (v := nI 1) hx hb dX4_joinFalling_70 (by decide) ?_
      refine lv_isub hx hb dX4_joinFalling_71 ?_
      refine toi (pk_sub (a := k) (b := 1) (by omega)) ?_
      refine va_put (D := G) (own := RX4) (ref := "SpotRows$Steps") (ci := 4) (v := .int (nI (k - 1))) (ty := .int) (C := RX4) (T := TX4) (N := 6) hx hb hts hinX4 tyX4 tyX4_ok nmX4 hown hK.1 hP hD hS 0 rfl rfl 5 (by decide) fl27 (fun _ h9 => h9) rfl (by decide +kernel) rfl rfl (Nat.le_of_ble_eq_true rfl) dX4_joinFalling_72 (fun H locs hP hD hS => ?_)
      have hP : va_P G vwCl [oSt a (nI (k - 1)), aI cI (a 18) 21 (nF (upN V (k - 2) (V (k - 2) + V (k - 1)))), aI cI (a 19) 21 (nF (upN N (k - 2) (N (k - 2) + N (k - 1))))] H := hP
      have hD : va_D A [oSt a (nI (k - 1)), aI cI (a 18) 21 (nF (upN V (k - 2) (V (k - 2) + V (k - 1)))), aI cI (a 19) 21 (nF (upN N (k - 2) (N (k - 2) + N (k - 1))))] := hD
      refine lv_goto (tgt := 0) hx hb dX4_joinFalling_75 (by decide) ?_
      exact ih_0 (k - 1) (upN V (k - 2) (V (k - 2) + V (k - 1))) (upN N (k - 2) (N (k - 2) + N (k - 1))) (by exact PV_join (by omega) hp2 c_12) (by omega) H locs hP hD hS ls (lvcv (l := [(0, .ref (a 4))]) (lv_sub hl [0] rfl) (lvC rfl))
  exact lp_0 (n + 1) n bS bD (by exact hpv) (by omega) _ _ hP hD hS ls (lvcv (l := [(0, .ref (a 4))]) (lv_sub hl [0] rfl) (lvC rfl))

set_option maxHeartbeats 400000 in
set_option maxRecDepth 100000 in
theorem c_X4_pool (l : Launch) (G : va_G) (cI cJ : ClassId) (a : Nat → Nat) (bl : Int32) (S : Nat → Nat) (D : Nat → Nat) (bS : Nat → Nat) (bD : Nat → Nat) (bF : Nat → Nat) (hSD : ∀ i, D i = 0 → S i = 0) (hS1 : sm S 21 ≤ 4800) (hD1 : sm D 21 ≤ 240) : Met l yX4_pool wsX4_pool ({ frames := 2, cells := 0, slots := 0, locals := 41 }) (rwP G cI cJ [.ref (a 4)] [oSt a bl, aI cI (a 16) 21 (nF S), aI cI (a 17) 21 (nF D), aI cI (a 18) 21 (nF bS), aI cI (a 19) 21 (nF bD), aI cI (a 20) 21 (nF bF)]) (rwQv G [oSt a bl, aI cI (a 16) 21 (nF S), aI cI (a 17) 21 (nF D), aI cI (a 18) 21 (nF bS), aI cI (a 19) 21 (nF bD), aI cI (a 20) 21 (nF bF)] (fun (u : Nat × (Nat → Nat) × (Nat → Nat) × (Nat → Nat)) => match u with | (n2, bS2, bD2, bF2) => PV S D bS2 bD2 bF2 n2 21 n2) (fun (u : Nat × (Nat → Nat) × (Nat → Nat) × (Nat → Nat)) => match u with | (n2, bS2, bD2, bF2) => [oSt a (nI n2), aI cI (a 16) 21 (nF S), aI cI (a 17) 21 (nF D), aI cI (a 18) 21 (nF bS2), aI cI (a 19) 21 (nF bD2), aI cI (a 20) 21 (nF bF2)])) 0 0 (ads [oSt a bl, aI cI (a 16) 21 (nF S), aI cI (a 17) 21 (nF D), aI cI (a 18) 21 (nF bS), aI cI (a 19) 21 (nF bD), aI cI (a 20) 21 (nF bF)]) := by
  refine Met.ofW (cc := cX4_pool) (maxL := 2) (ret := none) (by decide) rfl ?_
  intro pg ev s mt args below meth cd s₁ B hml hv
  obtain ⟨rfl, hP, hD0, hK⟩ := hv
  have hx := B.exec
  have hb := B.bytes
  have hr := B.returns
  have hts := atoms_spec (ws := wsX4_pool) B.pre
  have hown : s.vm.findClass RX4 = some mt.cls := findClass_of_methodNamed B.named
  have hlocks := B.notSynchronized
  have hD := ads_self hD0
  generalize hAe : ads [oSt a bl, aI cI (a 16) 21 (nF S), aI cI (a 17) 21 (nF D), aI cI (a 18) 21 (nF bS), aI cI (a 19) 21 (nF bD), aI cI (a 20) 21 (nF bF)] = A at hD ⊢
  have hS : va_S A s.heap s.heap [] := va_S.rf
  have hP : va_P G vwCl [oSt a bl, aI cI (a 16) 21 (nF S), aI cI (a 17) 21 (nF D), aI cI (a 18) 21 (nF bS), aI cI (a 19) 21 (nF bD), aI cI (a 20) 21 (nF bF)] s.heap := hP
  have hinX4 := (show ∀ w ∈ u_ws RX4 TX4 6, w ∈ wsX4_pool by decide +kernel)
  have fl27 := hts (.fieldLink RX4 27 "SpotRows$Steps" "blocks" "I") (by decide +kernel)
  have fl15 := hts (.fieldLink RX4 15 "SpotRows$Steps" "levelDays" "[I") (by decide +kernel)
  have fl18 := hts (.fieldLink RX4 18 "SpotRows$Steps" "blockSums" "[I") (by decide +kernel)
  have fl9 := hts (.fieldLink RX4 9 "SpotRows$Steps" "levelSums" "[I") (by decide +kernel)
  have fl21 := hts (.fieldLink RX4 21 "SpotRows$Steps" "blockDays" "[I") (by decide +kernel)
  have fl24 := hts (.fieldLink RX4 24 "SpotRows$Steps" "blockFirsts" "[I") (by decide +kernel)
  have hl := lv_entry ([.ref (a 4)]) (n := 2) (Nat.le_of_ble_eq_true rfl)
  rw [lg_entry_eq]
  generalize (lg_sl ([.ref (a 4)]) ++ List.replicate (2 - (lg_sl ([.ref (a 4)])).length) Slot.unset).toArray = ls at hl ⊢
  have hl : lv_has ls 2 [(0, .ref (a 4))] := hl
  refine lv_aload_n hx hb dX4_pool_0 rfl (lv_at hl 0 rfl) ?_
  refine lv_iconst (v := nI 0) hx hb dX4_pool_1 (by decide) ?_
  refine va_put (D := G) (own := RX4) (ref := "SpotRows$Steps") (ci := 4) (v := .int (nI 0)) (ty := .int) (C := RX4) (T := TX4) (N := 6) hx hb hts hinX4 tyX4 tyX4_ok nmX4 hown hK.1 hP hD hS 0 rfl rfl 5 (by decide) fl27 (fun _ h9 => h9) rfl (by decide +kernel) rfl rfl (Nat.le_of_ble_eq_true rfl) dX4_pool_2 (fun H locs hP hD hS => ?_)
  have hP : va_P G vwCl [oSt a (nI 0), aI cI (a 16) 21 (nF S), aI cI (a 17) 21 (nF D), aI cI (a 18) 21 (nF bS), aI cI (a 19) 21 (nF bD), aI cI (a 20) 21 (nF bF)] H := hP
  have hD : va_D A [oSt a (nI 0), aI cI (a 16) 21 (nF S), aI cI (a 17) 21 (nF D), aI cI (a 18) 21 (nF bS), aI cI (a 19) 21 (nF bD), aI cI (a 20) 21 (nF bF)] := hD
  refine lv_iconst (v := nI 0) hx hb dX4_pool_5 (by decide) ?_
  refine lv_istore_n (lv' := [(1, .int (nI 0)), (0, .ref (a 4))]) hx hb dX4_pool_6 rfl hl (by decide) rfl (fun ls hl => ?_)
  have lp_7 : ∀ (nf : Nat) (g : Nat) (k : Nat) (V : Nat → Nat) (N : Nat → Nat) (B_ : Nat → Nat), (g ≤ 21) → (PV S D V N B_ k g k) → 21 - g < nf → ∀ (H : Heap) (locs : List Loc), va_P G vwCl [oSt a (nI k), aI cI (a 16) 21 (nF S), aI cI (a 17) 21 (nF D), aI cI (a 18) 21 (nF V), aI cI (a 19) 21 (nF N), aI cI (a 20) 21 (nF B_)] H → va_D A [oSt a (nI k), aI cI (a 16) 21 (nF S), aI cI (a 17) 21 (nF D), aI cI (a 18) 21 (nF V), aI cI (a 19) 21 (nF N), aI cI (a 20) 21 (nF B_)] → va_S A s.heap H locs → ∀ (ls : Array Slot), lv_has ls 2 [(0, .ref (a 4)), (1, .int (nI g))] → W pg l ev (headSpec wsX4_pool ({ frames := 2, cells := 0, slots := 0, locals := 41 })).room s mt ([.ref (a 4)] : List Value).toArray below meth cd H locs 0 0 (MQ below (rwQv G [oSt a bl, aI cI (a 16) 21 (nF S), aI cI (a 17) 21 (nF D), aI cI (a 18) 21 (nF bS), aI cI (a 19) 21 (nF bD), aI cI (a 20) 21 (nF bF)] (fun (u : Nat × (Nat → Nat) × (Nat → Nat) × (Nat → Nat)) => match u with | (n2, bS2, bD2, bF2) => PV S D bS2 bD2 bF2 n2 21 n2) (fun (u : Nat × (Nat → Nat) × (Nat → Nat) × (Nat → Nat)) => match u with | (n2, bS2, bD2, bF2) => [oSt a (nI n2), aI cI (a 16) 21 (nF S), aI cI (a 17) 21 (nF D), aI cI (a 18) 21 (nF bS2), aI cI (a 19) 21 (nF bD2), aI cI (a 20) 21 (nF bF2)])) ([.ref (a 4)] : List Value).toArray s 0 0 A) (F0 mt 7 ls []) := by
    intro nf
    induction nf with
    | zero => intro g k V N B_ hg hp2 hfu; exact absurd hfu (Nat.not_lt_zero _)
    | succ nf ih_7 =>
      intro g k V N B_ hg hp2 hfu H locs hP hD hS ls hl
      have hkg := hp2.1.1
      refine lv_iload_n hx hb dX4_pool_7 rfl (lv_at hl 1 rfl) ?_
      refine lv_bipush (v := nI 20) hx hb dX4_pool_8 (by decide) ?_
      refine nv_icmp_gt (tgt := 82) hx hb dX4_pool_10 (by decide) (by omega) (by omega) (fun c_10 => ?_) (fun c_10 => ?_)
      · exact W.vret hx hb hr (fun zt ht zw => ⟨⟨(k, V, N, B_), rfl, (by rw [← show g = 21 from by omega]; exact hp2), by show va_P _ _ _ zt.heap; rw [ht]; exact hP⟩, by rw [hAe]; exact hS.F ht⟩) hS.2.2 dX4_pool_82
      have q1 := sm_mono S (show g + 1 ≤ 21 by omega)
      have q2 := sm_mono D (show g + 1 ≤ 21 by omega)
      have q3 := sm_s D g
      have q4 := sm_s S g
      refine lv_aload_n hx hb dX4_pool_13 rfl (lv_at hl 0 rfl) ?_
      refine va_get (D := G) (own := RX4) (ref := "SpotRows$Steps") (ci := 4) (v := .ref (a 17)) (C := RX4) (T := TX4) (N := 6) hx hb hts hinX4 hown hK.1 hP 0 rfl rfl 1 (by decide) fl15 (fun _ h9 => h9) rfl dX4_pool_14 ?_
      refine lv_iload_n hx hb dX4_pool_17 rfl (lv_at hl 1 rfl) ?_
      refine ld_nF hx hb hK hP 2 (k := g) rfl (by omega) (by decide) dX4_pool_18 ?_
      refine nv_if_le (tgt := 76) hx hb dX4_pool_19 (by decide) (by omega) (fun c_19 => ?_) (fun c_19 => ?_)
      · refine lv_iinc (v := nI (g + 1)) (lv' := [(1, .int (nI (g + 1))), (0, .ref (a 4))]) hx hb dX4_pool_76 hl (k := 1) rfl (nI_add g 1) (by decide) rfl (fun ls hl => ?_)
        refine lv_goto (tgt := 7) hx hb dX4_pool_79 (by decide) ?_
        exact ih_7 (g + 1) k V N B_ (by first | rfl | omega | (simp_all; done)) (by first | exact hw_73 | exact PV_skip hp2 c_19 (hSD g c_19)) (by omega) H locs hP hD hS ls (lvcv (l := [(0, .ref (a 4)), (1, .int (nI (g + 1)))]) (lv_sub hl [1, 0] rfl) (lvC (lvC rfl)))
      refine lv_aload_n hx hb dX4_pool_22 rfl (lv_at hl 0 rfl) ?_
      refine va_get (D := G) (own := RX4) (ref := "SpotRows$Steps") (ci := 4) (v := .ref (a 18)) (C := RX4) (T := TX4) (N := 6) hx hb hts hinX4 hown hK.1 hP 0 rfl rfl 2 (by decide) fl18 (fun _ h9 => h9) rfl dX4_pool_23 ?_
      refine lv_aload_n hx hb dX4_pool_26 rfl (lv_at hl 0 rfl) ?_
      refine va_get (D := G) (own := RX4) (ref := "SpotRows$Steps") (ci := 4) (v := .int (nI k)) (C := RX4) (T := TX4) (N := 6) hx hb hts hinX4 hown hK.1 hP 0 rfl rfl 5 (by decide) fl27 (fun _ h9 => h9) rfl dX4_pool_27 ?_
      refine lv_aload_n hx hb dX4_pool_30 rfl (lv_at hl 0 rfl) ?_
      refine va_get (D := G) (own := RX4) (ref := "SpotRows$Steps") (ci := 4) (v := .ref (a 16)) (C := RX4) (T := TX4) (N := 6) hx hb hts hinX4 hown hK.1 hP 0 rfl rfl 0 (by decide) fl9 (fun _ h9 => h9) rfl dX4_pool_31 ?_
      refine lv_iload_n hx hb dX4_pool_34 rfl (lv_at hl 1 rfl) ?_
      refine ld_nF hx hb hK hP 1 (k := g) rfl (by omega) (by decide) dX4_pool_35 ?_
      refine st_nF hx hb hK hP hD hS 3 (k := k) rfl (by omega) (by decide) dX4_pool_36 (fun H locs hP hD hS => ?_)
      have hP : va_P G vwCl [oSt a (nI k), aI cI (a 16) 21 (nF S), aI cI (a 17) 21 (nF D), aI cI (a 18) 21 (nF (upN V k (S g))), aI cI (a 19) 21 (nF N), aI cI (a 20) 21 (nF B_)] H := hP
      have hD : va_D A [oSt a (nI k), aI cI (a 16) 21 (nF S), aI cI (a 17) 21 (nF D), aI cI (a 18) 21 (nF (upN V k (S g))), aI cI (a 19) 21 (nF N), aI cI (a 20) 21 (nF B_)] := hD
      refine lv_aload_n hx hb dX4_pool_37 rfl (lv_at hl 0 rfl) ?_
      refine va_get (D := G) (own := RX4) (ref := "SpotRows$Steps") (ci := 4) (v := .ref (a 19)) (C := RX4) (T := TX4) (N := 6) hx hb hts hinX4 hown hK.1 hP 0 rfl rfl 3 (by decide) fl21 (fun _ h9 => h9) rfl dX4_pool_38 ?_
      refine lv_aload_n hx hb dX4_pool_41 rfl (lv_at hl 0 rfl) ?_
      refine va_get (D := G) (own := RX4) (ref := "SpotRows$Steps") (ci := 4) (v := .int (nI k)) (C := RX4) (T := TX4) (N := 6) hx hb hts hinX4 hown hK.1 hP 0 rfl rfl 5 (by decide) fl27 (fun _ h9 => h9) rfl dX4_pool_42 ?_
      refine lv_aload_n hx hb dX4_pool_45 rfl (lv_at hl 0 rfl) ?_
      refine va_get (D := G) (own := RX4) (ref := "SpotRows$Steps") (ci := 4) (v := .ref (a 17)) (C := RX4) (T := TX4) (N := 6) hx hb hts hinX4 hown hK.1 hP 0 rfl rfl 1 (by decide) fl15 (fun _ h9 => h9) rfl dX4_pool_46 ?_
      refine lv_iload_n hx hb dX4_pool_49 rfl (lv_at hl 1 rfl) ?_
      refine ld_nF hx hb hK hP 2 (k := g) rfl (by omega) (by decide) dX4_pool_50 ?_
      refine st_nF hx hb hK hP hD hS 4 (k := k) rfl (by omega) (by decide) dX4_pool_51 (fun H locs hP hD hS => ?_)
      have hP : va_P G vwCl [oSt a (nI k), aI cI (a 16) 21 (nF S), aI cI (a 17) 21 (nF D), aI cI (a 18) 21 (nF (upN V k (S g))), aI cI (a 19) 21 (nF (upN N k (D g))), aI cI (a 20) 21 (nF B_)] H := hP
      have hD : va_D A [oSt a (nI k), aI cI (a 16) 21 (nF S), aI cI (a 17) 21 (nF D), aI cI (a 18) 21 (nF (upN V k (S g))), aI cI (a 19) 21 (nF (upN N k (D g))), aI cI (a 20) 21 (nF B_)] := hD
      refine lv_aload_n hx hb dX4_pool_52 rfl (lv_at hl 0 rfl) ?_
      refine va_get (D := G) (own := RX4) (ref := "SpotRows$Steps") (ci := 4) (v := .ref (a 20)) (C := RX4) (T := TX4) (N := 6) hx hb hts hinX4 hown hK.1 hP 0 rfl rfl 4 (by decide) fl24 (fun _ h9 => h9) rfl dX4_pool_53 ?_
      refine lv_aload_n hx hb dX4_pool_56 rfl (lv_at hl 0 rfl) ?_
      refine va_get (D := G) (own := RX4) (ref := "SpotRows$Steps") (ci := 4) (v := .int (nI k)) (C := RX4) (T := TX4) (N := 6) hx hb hts hinX4 hown hK.1 hP 0 rfl rfl 5 (by decide) fl27 (fun _ h9 => h9) rfl dX4_pool_57 ?_
      refine lv_iload_n hx hb dX4_pool_60 rfl (lv_at hl 1 rfl) ?_
      refine st_nF hx hb hK hP hD hS 5 (k := k) rfl (by omega) (by decide) dX4_pool_61 (fun H locs hP hD hS => ?_)
      have hP : va_P G vwCl [oSt a (nI k), aI cI (a 16) 21 (nF S), aI cI (a 17) 21 (nF D), aI cI (a 18) 21 (nF (upN V k (S g))), aI cI (a 19) 21 (nF (upN N k (D g))), aI cI (a 20) 21 (nF (upN B_ k g))] H := hP
      have hD : va_D A [oSt a (nI k), aI cI (a 16) 21 (nF S), aI cI (a 17) 21 (nF D), aI cI (a 18) 21 (nF (upN V k (S g))), aI cI (a 19) 21 (nF (upN N k (D g))), aI cI (a 20) 21 (nF (upN B_ k g))] := hD
      refine lv_aload_n hx hb dX4_pool_62 rfl (lv_at hl 0 rfl) ?_
      refine lv_dup hx hb dX4_pool_63 rfl ?_
      refine va_get (D := G) (own := RX4) (ref := "SpotRows$Steps") (ci := 4) (v := .int (nI k)) (C := RX4) (T := TX4) (N := 6) hx hb hts hinX4 hown hK.1 hP 0 rfl rfl 5 (by decide) fl27 (fun _ h9 => h9) rfl dX4_pool_64 ?_
      refine lv_iconst (v := nI 1) hx hb dX4_pool_67 (by decide) ?_
      refine lv_iadd hx hb dX4_pool_68 ?_
      refine toi (nI_add k 1) ?_
      refine va_put (D := G) (own := RX4) (ref := "SpotRows$Steps") (ci := 4) (v := .int (nI (k + 1))) (ty := .int) (C := RX4) (T := TX4) (N := 6) hx hb hts hinX4 tyX4 tyX4_ok nmX4 hown hK.1 hP hD hS 0 rfl rfl 5 (by decide) fl27 (fun _ h9 => h9) rfl (by decide +kernel) rfl rfl (Nat.le_of_ble_eq_true rfl) dX4_pool_69 (fun H locs hP hD hS => ?_)
      have hP : va_P G vwCl [oSt a (nI (k + 1)), aI cI (a 16) 21 (nF S), aI cI (a 17) 21 (nF D), aI cI (a 18) 21 (nF (upN V k (S g))), aI cI (a 19) 21 (nF (upN N k (D g))), aI cI (a 20) 21 (nF (upN B_ k g))] H := hP
      have hD : va_D A [oSt a (nI (k + 1)), aI cI (a 16) 21 (nF S), aI cI (a 17) 21 (nF D), aI cI (a 18) 21 (nF (upN V k (S g))), aI cI (a 19) 21 (nF (upN N k (D g))), aI cI (a 20) 21 (nF (upN B_ k g))] := hD
      refine lv_aload_n hx hb dX4_pool_72 rfl (lv_at hl 0 rfl) ?_
      refine crw_v (free := fun _ => True) (va_runV (As := []) (rest := []) ⟨hx, hb, hml, hown, hts⟩ (c_X4_joinFalling l G cI cJ (a := a) (n := k + 1) (S := S) (D := D) (bS := upN V k (S g)) (bD := upN N k (D g)) (bF := upN B_ k g) (g := g + 1) (hg := by omega) (hpv := PV_push hp2 c_19) (hS1 := by omega) (hD1 := by omega)) (cwV 0 hts gX4_pool_X4_joinFalling rfl rfl rfl (by decide +kernel) ⟨Nat.le_of_ble_eq_true rfl, Nat.le_of_ble_eq_true rfl⟩) (preV_rw (wc := [oSt a (nI (k + 1)), aI cI (a 18) 21 (nF (upN V k (S g))), aI cI (a 19) 21 (nF (upN N k (D g)))]) hK hP hD [0, 3, 4] rfl rfl 4 0 rfl rfl rfl) rfl rfl hl.1 rfl (lv_room (Nat.le_of_ble_eq_true rfl)) dX4_pool_73 ⟨Nat.zero_le _, Nat.zero_le _⟩) hP hD hS [0, 3, 4] rfl [a 4, a 18, a 19] (fun u => rfl) rfl (fun u_ H locs hw_73 hP hD hS => ?_)
      obtain ⟨n2_73, bS2_73, bD2_73⟩ := u_
      have hP : va_P G vwCl [oSt a (nI n2_73), aI cI (a 16) 21 (nF S), aI cI (a 17) 21 (nF D), aI cI (a 18) 21 (nF bS2_73), aI cI (a 19) 21 (nF bD2_73), aI cI (a 20) 21 (nF (upN B_ k g))] H := hP
      have hD : va_D A [oSt a (nI n2_73), aI cI (a 16) 21 (nF S), aI cI (a 17) 21 (nF D), aI cI (a 18) 21 (nF bS2_73), aI cI (a 19) 21 (nF bD2_73), aI cI (a 20) 21 (nF (upN B_ k g))] := hD
      refine lv_iinc (v := nI (g + 1)) (lv' := [(1, .int (nI (g + 1))), (0, .ref (a 4))]) hx hb dX4_pool_76 hl (k := 1) rfl (nI_add g 1) (by decide) rfl (fun ls hl => ?_)
      refine lv_goto (tgt := 7) hx hb dX4_pool_79 (by decide) ?_
      exact ih_7 (g + 1) n2_73 bS2_73 bD2_73 (upN B_ k g) (by first | rfl | omega | (simp_all; done)) (by first | exact hw_73 | exact PV_skip hp2 c_19 (hSD g c_19)) (by omega) H locs hP hD hS ls (lvcv (l := [(0, .ref (a 4)), (1, .int (nI (g + 1)))]) (lv_sub hl [1, 0] rfl) (lvC (lvC rfl)))
  exact lp_7 (21 - 0 + 1) 0 0 bS bD bF (by first | rfl | omega | (simp_all; done)) (by exact PV_0 _ _ _ _ _) (by omega) _ _ hP hD hS ls (lvcv (l := [(0, .ref (a 4)), (1, .int (nI 0))]) (lv_sub hl [1, 0] rfl) (lvC (lvC rfl)))

set_option maxHeartbeats 400000 in
set_option maxRecDepth 100000 in
theorem c_X4_blockFor (l : Launch) (G : va_G) (cI cJ : ClassId) (a : Nat → Nat) (n : Nat) (bF : Nat → Nat) (g : Nat) (hn : n ≤ 21) (hg : g ≤ 20) (hbf : ∀ j, j < n → bF j < 21) : Met l yX4_blockFor wsX4_blockFor ({ frames := 0, cells := 0, slots := 0, locals := 0 }) (roP G cI cJ [.ref (a 4), .int (nI g)] [oSt a (nI n), aI cI (a 20) 21 (nF bF)]) (vp_Si (fun r => r = oI (bfo bF g n))) 0 0 (fun _ => False) := by
  refine Met.ofW (cc := cX4_blockFor) (maxL := 4) (ret := (some .int)) (by decide) rfl ?_
  intro pg ev s mt args below meth cd s₁ B hml hv
  obtain ⟨rfl, hP, hK⟩ := hv
  have hx := B.exec
  have hb := B.bytes
  have hr := B.returns
  have hts := atoms_spec (ws := wsX4_blockFor) B.pre
  have hown : s.vm.findClass RX4 = some mt.cls := findClass_of_methodNamed B.named
  have hlocks := B.notSynchronized
  have hP : va_P G vwCl [oSt a (nI n), aI cI (a 20) 21 (nF bF)] s.heap := hP
  have hinX4 := (show ∀ w ∈ u_ws RX4 TX4 6, w ∈ wsX4_blockFor by decide +kernel)
  have fl27 := hts (.fieldLink RX4 27 "SpotRows$Steps" "blocks" "I") (by decide +kernel)
  have fl24 := hts (.fieldLink RX4 24 "SpotRows$Steps" "blockFirsts" "[I") (by decide +kernel)
  have hl := lv_entry ([.ref (a 4), .int (nI g)]) (n := 4) (Nat.le_of_ble_eq_true rfl)
  rw [lg_entry_eq]
  generalize (lg_sl ([.ref (a 4), .int (nI g)]) ++ List.replicate (4 - (lg_sl ([.ref (a 4), .int (nI g)])).length) Slot.unset).toArray = ls at hl ⊢
  have hl : lv_has ls 4 [(0, .ref (a 4)), (1, .int (nI g))] := hl
  refine lv_iconst (v := (-1)) hx hb dX4_blockFor_0 (by decide) ?_
  refine lv_istore_n (lv' := [(2, .int (-1)), (0, .ref (a 4)), (1, .int (nI g))]) hx hb dX4_blockFor_1 rfl hl (by decide) rfl (fun ls hl => ?_)
  refine lv_iconst (v := nI 0) hx hb dX4_blockFor_2 (by decide) ?_
  refine lv_istore_n (lv' := [(3, .int (nI 0)), (2, .int (-1)), (0, .ref (a 4)), (1, .int (nI g))]) hx hb dX4_blockFor_3 rfl hl (by decide) rfl (fun ls hl => ?_)
  have lp_4 : ∀ (nf : Nat) (k : Nat), (k ≤ n) → n - k < nf → ∀ (ls : Array Slot), lv_has ls 4 [(0, .ref (a 4)), (1, .int (nI g)), (2, .int (oI (bfo bF g k))), (3, .int (nI k))] → W pg l ev (headSpec wsX4_blockFor ({ frames := 0, cells := 0, slots := 0, locals := 0 })).room s mt ([.ref (a 4), .int (nI g)] : List Value).toArray below meth cd s.heap [] 0 0 (MQ below (vp_Si (fun r => r = oI (bfo bF g n))) ([.ref (a 4), .int (nI g)] : List Value).toArray s 0 0 (fun _ => False)) (F0 mt 4 ls []) := by
    intro nf
    induction nf with
    | zero => intro k hk hfu; exact absurd hfu (Nat.not_lt_zero _)
    | succ nf ih_4 =>
      intro k hk hfu ls hl
      refine lv_iload_n hx hb dX4_blockFor_4 rfl (lv_at hl 3 rfl) ?_
      refine lv_aload_n hx hb dX4_blockFor_5 rfl (lv_at hl 0 rfl) ?_
      refine va_get (D := G) (own := RX4) (ref := "SpotRows$Steps") (ci := 4) (v := .int (nI n)) (C := RX4) (T := TX4) (N := 6) hx hb hts hinX4 hown hK.1 hP 0 rfl rfl 5 (by decide) fl27 (fun _ h9 => h9) rfl dX4_blockFor_6 ?_
      refine nv_icmp_ge (tgt := 30) hx hb dX4_blockFor_9 (by decide) (by omega) (by omega) (fun c_9 => ?_) (fun c_9 => ?_)
      · refine lv_iload_n hx hb dX4_blockFor_30 rfl (lv_at hl 2 rfl) ?_
        exact W.iret (v := oI (bfo bF g k)) hx hb hr (fun zt ht zw => ⟨_, rfl, (congrArg oI (show (bfo bF g k) = (bfo bF g n) from by rw [show k = n from by omega])), ht⟩) (fun q hq => absurd hq List.not_mem_nil) dX4_blockFor_31
      have f1 := hbf k (by omega)
      refine lv_aload_n hx hb dX4_blockFor_12 rfl (lv_at hl 0 rfl) ?_
      refine va_get (D := G) (own := RX4) (ref := "SpotRows$Steps") (ci := 4) (v := .ref (a 20)) (C := RX4) (T := TX4) (N := 6) hx hb hts hinX4 hown hK.1 hP 0 rfl rfl 4 (by decide) fl24 (fun _ h9 => h9) rfl dX4_blockFor_13 ?_
      refine lv_iload_n hx hb dX4_blockFor_16 rfl (lv_at hl 3 rfl) ?_
      refine ld_nF hx hb hK hP 1 (k := k) rfl (by omega) (by decide) dX4_blockFor_17 ?_
      refine lv_iload_n hx hb dX4_blockFor_18 rfl (lv_at hl 1 rfl) ?_
      refine nv_icmp_gt (tgt := 24) hx hb dX4_blockFor_19 (by decide) (by omega) (by omega) (fun c_19 => ?_) (fun c_19 => ?_)
      · refine lv_iinc (v := nI (k + 1)) (lv' := [(3, .int (nI (k + 1))), (0, .ref (a 4)), (1, .int (nI g)), (2, .int (oI (bfo bF g k)))]) hx hb dX4_blockFor_24 hl (k := 3) rfl (nI_add k 1) (by decide) rfl (fun ls hl => ?_)
        refine lv_goto (tgt := 4) hx hb dX4_blockFor_27 (by decide) ?_
        exact ih_4 (k + 1) (by first | rfl | omega | (simp_all; done)) (by omega) ls (lvcv (l := [(0, .ref (a 4)), (1, .int (nI g)), (2, .int (oI (bfo bF g k))), (3, .int (nI (k + 1)))]) (lv_sub hl [1, 2, 3, 0] rfl) (lvC (lvC (lvI (congrArg oI (show (bfo bF g k) = (bfo bF g (k + 1)) from by first | rw [bfo, if_neg (by omega)] | rw [bfo, if_pos (by omega)])) (lvC rfl)))))
      refine lv_iload_n hx hb dX4_blockFor_22 rfl (lv_at hl 3 rfl) ?_
      refine lv_istore_n (lv' := [(2, .int (nI k)), (0, .ref (a 4)), (1, .int (nI g)), (3, .int (nI k))]) hx hb dX4_blockFor_23 rfl hl (by decide) rfl (fun ls hl => ?_)
      refine lv_iinc (v := nI (k + 1)) (lv' := [(3, .int (nI (k + 1))), (2, .int (nI k)), (0, .ref (a 4)), (1, .int (nI g))]) hx hb dX4_blockFor_24 hl (k := 3) rfl (nI_add k 1) (by decide) rfl (fun ls hl => ?_)
      refine lv_goto (tgt := 4) hx hb dX4_blockFor_27 (by decide) ?_
      exact ih_4 (k + 1) (by first | rfl | omega | (simp_all; done)) (by omega) ls (lvcv (l := [(0, .ref (a 4)), (1, .int (nI g)), (2, .int (nI k)), (3, .int (nI (k + 1)))]) (lv_sub hl [2, 3, 1, 0] rfl) (lvC (lvC (lvI ((nI_o k).trans (congrArg oI (show k + 1 = (bfo bF g (k + 1)) from by first | rw [bfo, if_neg (by omega)] | rw [bfo, if_pos (by omega)]))) (lvC rfl)))))
  exact lp_4 (n - 0 + 1) 0 (by first | rfl | omega | (simp_all; done)) (by omega) ls (lvcv (l := [(0, .ref (a 4)), (1, .int (nI g)), (2, .int (-1)), (3, .int (nI 0))]) (lv_sub hl [2, 3, 1, 0] rfl) (lvC (lvC (lvI (m1_o.trans (congrArg oI (show 0 = (bfo bF g 0) from by rfl))) (lvC rfl)))))

set_option maxHeartbeats 400000 in
set_option maxRecDepth 100000 in
theorem c_X7_step (l : Launch) (G : va_G) (cI cJ : ClassId) (a : Nat → Nat) (oc : Int32) (up : Int64) (lo : Int64) (ey : Nat) (le : Int32) (t : Nat → Nat) (bl : Int32) (S : Nat → Nat) (D : Nat → Nat) (bS : Nat → Nat) (bD : Nat → Nat) (bF : Nat → Nat) (x : Int32) (y : Int32) (g : Int32) (tb : TB t) (hey : ey ≤ 8) : Met l yX7_step wsX7_step ({ frames := 3, cells := 0, slots := 0, locals := 70 }) (rwP G cI cJ [.ref (a 0), .int x, .int y, .int g] [oX a oc, oFr a up lo, oTe a (nI ey) le, aI cI (a 11) 1920 (oF t), oSt a bl, aI cI (a 16) 21 (nF S), aI cI (a 17) 21 (nF D), aI cI (a 18) 21 (nF bS), aI cI (a 19) 21 (nF bD), aI cI (a 20) 21 (nF bF)]) (rwQi G [oX a oc, oFr a up lo, oTe a (nI ey) le, aI cI (a 11) 1920 (oF t), oSt a bl, aI cI (a 16) 21 (nF S), aI cI (a 17) 21 (nF D), aI cI (a 18) 21 (nF bS), aI cI (a 19) 21 (nF bD), aI cI (a 20) 21 (nF bF)] (fun (r : Int32) (u : Int32 × (Nat → Nat) × (Nat → Nat) × (Nat → Nat) × (Nat → Nat) × (Nat → Nat)) => match u with | (bl2, S2, D2, bS2, bD2, bF2) => r = oI (rFr (qStep t ey x y g) (upStep t x y g)) ∧ True) (fun (u : Int32 × (Nat → Nat) × (Nat → Nat) × (Nat → Nat) × (Nat → Nat) × (Nat → Nat)) => match u with | (bl2, S2, D2, bS2, bD2, bF2) => [oX a (nI (qStep t ey x y g)), oFr a (frM (qStep t ey x y g) (upStep t x y g) up) (frM (qStep t ey x y g) (loStep t x y g) lo), oTe a (nI ey) le, aI cI (a 11) 1920 (oF t), oSt a bl2, aI cI (a 16) 21 (nF S2), aI cI (a 17) 21 (nF D2), aI cI (a 18) 21 (nF bS2), aI cI (a 19) 21 (nF bD2), aI cI (a 20) 21 (nF bF2)])) 0 0 (ads [oX a oc, oFr a up lo, oTe a (nI ey) le, aI cI (a 11) 1920 (oF t), oSt a bl, aI cI (a 16) 21 (nF S), aI cI (a 17) 21 (nF D), aI cI (a 18) 21 (nF bS), aI cI (a 19) 21 (nF bD), aI cI (a 20) 21 (nF bF)]) := by
  refine Met.ofW (cc := cX7_step) (maxL := 5) (ret := (some .int)) (by decide) rfl ?_
  intro pg ev s mt args below meth cd s₁ B hml hv
  obtain ⟨rfl, hP, hD0, hK⟩ := hv
  have hx := B.exec
  have hb := B.bytes
  have hr := B.returns
  have hts := atoms_spec (ws := wsX7_step) B.pre
  have hown : s.vm.findClass RX7 = some mt.cls := findClass_of_methodNamed B.named
  have hlocks := B.notSynchronized
  have hD := ads_self hD0
  generalize hAe : ads [oX a oc, oFr a up lo, oTe a (nI ey) le, aI cI (a 11) 1920 (oF t), oSt a bl, aI cI (a 16) 21 (nF S), aI cI (a 17) 21 (nF D), aI cI (a 18) 21 (nF bS), aI cI (a 19) 21 (nF bD), aI cI (a 20) 21 (nF bF)] = A at hD ⊢
  have hS : va_S A s.heap s.heap [] := va_S.rf
  have hP : va_P G vwCl [oX a oc, oFr a up lo, oTe a (nI ey) le, aI cI (a 11) 1920 (oF t), oSt a bl, aI cI (a 16) 21 (nF S), aI cI (a 17) 21 (nF D), aI cI (a 18) 21 (nF bS), aI cI (a 19) 21 (nF bD), aI cI (a 20) 21 (nF bF)] s.heap := hP
  have hinX7 := (show ∀ w ∈ u_ws RX7 TX7 8, w ∈ wsX7_step by decide +kernel)
  have fl33 := hts (.fieldLink RX7 33 "SpotRows" "steps" "LSpotRows$Steps;") (by decide +kernel)
  have fl19 := hts (.fieldLink RX7 19 "SpotRows" "tellings" "LSpotRows$Tellings;") (by decide +kernel)
  have hinX4 := (show ∀ w ∈ u_ws RX4 TX4 6, w ∈ wsX7_step by decide +kernel)
  have fn198 := va_Nw.use (A := ([.ref (a 0), .int x, .int y, .int g] : List Value).toArray) rfl (hK.2.1 (.fieldLinkNest "SpotRows" 198 "SpotRows$Steps" "blockSums" "[I" "SpotRows") (by decide +kernel))
  have fn201 := va_Nw.use (A := ([.ref (a 0), .int x, .int y, .int g] : List Value).toArray) rfl (hK.2.1 (.fieldLinkNest "SpotRows" 201 "SpotRows$Steps" "blockDays" "[I" "SpotRows") (by decide +kernel))
  have hl := lv_entry ([.ref (a 0), .int x, .int y, .int g]) (n := 5) (Nat.le_of_ble_eq_true rfl)
  rw [lg_entry_eq]
  generalize (lg_sl ([.ref (a 0), .int x, .int y, .int g]) ++ List.replicate (5 - (lg_sl ([.ref (a 0), .int x, .int y, .int g])).length) Slot.unset).toArray = ls at hl ⊢
  have hl : lv_has ls 5 [(0, .ref (a 0)), (1, .int x), (2, .int y), (3, .int g)] := hl
  refine lv_aload_n hx hb dX7_step_0 rfl (lv_at hl 0 rfl) ?_
  refine lv_iload_n hx hb dX7_step_1 rfl (lv_at hl 1 rfl) ?_
  refine lv_iload_n hx hb dX7_step_2 rfl (lv_at hl 2 rfl) ?_
  refine cro_i (va_runV (As := [.int x, .int y]) (rest := []) ⟨hx, hb, hml, hown, hts⟩ (c_X7_arePair l G cI cJ (a := a) (oc := oc) (ey := ey) (le := le) (x := x) (y := y) (hey := by first | assumption | omega)) (cwV 2 hts gX7_step_X7_arePair rfl rfl rfl (by decide +kernel) ⟨Nat.le_of_ble_eq_true rfl, Nat.le_of_ble_eq_true rfl⟩) (preV_ro (wc := [oX a oc, oTe a (nI ey) le]) hK hP [0, 2] rfl 7 0 rfl rfl rfl) rfl rfl hl.1 rfl (lv_room (Nat.le_of_ble_eq_true rfl)) dX7_step_3 ⟨Nat.zero_le _, Nat.zero_le _⟩) ?_
  refine nb_if_eq (tgt := 18) hx hb dX7_step_6 (by decide) (fun c_6 => ?_) (fun c_6 => ?_)
  · refine lv_aload_n hx hb dX7_step_18 rfl (lv_at hl 0 rfl) ?_
    refine lv_iconst (v := nI 1) hx hb dX7_step_19 (by decide) ?_
    refine crw_i (va_runV (As := [.int (nI 1)]) (rest := []) ⟨hx, hb, hml, hown, hts⟩ (c_X7_lack l G cI cJ (a := a) (oc := oc) (w := nI 1) ) (cwV 1 hts gX7_step_X7_lack rfl rfl rfl (by decide +kernel) ⟨Nat.le_of_ble_eq_true rfl, Nat.le_of_ble_eq_true rfl⟩) (preV_rw (wc := [oX a oc]) hK hP hD [0] rfl rfl 7 0 rfl rfl rfl) rfl rfl hl.1 rfl (lv_room (Nat.le_of_ble_eq_true rfl)) dX7_step_20 ⟨Nat.zero_le _, Nat.zero_le _⟩) hP hD hS [0] rfl [a 0] (fun u => rfl) rfl (fun r_20 u_ H locs hw_20 hP hD hS => ?_)
    have hP : va_P G vwCl [oX a (nI 1), oFr a up lo, oTe a (nI ey) le, aI cI (a 11) 1920 (oF t), oSt a bl, aI cI (a 16) 21 (nF S), aI cI (a 17) 21 (nF D), aI cI (a 18) 21 (nF bS), aI cI (a 19) 21 (nF bD), aI cI (a 20) 21 (nF bF)] H := hP
    have hD : va_D A [oX a (nI 1), oFr a up lo, oTe a (nI ey) le, aI cI (a 11) 1920 (oF t), oSt a bl, aI cI (a 16) 21 (nF S), aI cI (a 17) 21 (nF D), aI cI (a 18) 21 (nF bS), aI cI (a 19) 21 (nF bD), aI cI (a 20) 21 (nF bF)] := hD
    refine toi hw_20 ?_
    have hP : va_P G vwCl [oX a (nI (qStep t ey x y g)), oFr a (frM (qStep t ey x y g) (upStep t x y g) up) (frM (qStep t ey x y g) (loStep t x y g) lo), oTe a (nI ey) le, aI cI (a 11) 1920 (oF t), oSt a bl, aI cI (a 16) 21 (nF S), aI cI (a 17) 21 (nF D), aI cI (a 18) 21 (nF bS), aI cI (a 19) 21 (nF bD), aI cI (a 20) 21 (nF bF)] H := by
      have ew : ([oX a (nI 1), oFr a up lo, oTe a (nI ey) le, aI cI (a 11) 1920 (oF t), oSt a bl, aI cI (a 16) 21 (nF S), aI cI (a 17) 21 (nF D), aI cI (a 18) 21 (nF bS), aI cI (a 19) 21 (nF bD), aI cI (a 20) 21 (nF bF)] : va_W) = [oX a (nI (qStep t ey x y g)), oFr a (frM (qStep t ey x y g) (upStep t x y g) up) (frM (qStep t ey x y g) (loStep t x y g) lo), oTe a (nI ey) le, aI cI (a 11) 1920 (oF t), oSt a bl, aI cI (a 16) 21 (nF S), aI cI (a 17) 21 (nF D), aI cI (a 18) 21 (nF bS), aI cI (a 19) 21 (nF bD), aI cI (a 20) 21 (nF bF)] := (wvC (congrArg (fun zz => oX a zz) (show nI 1 = nI (qStep t ey x y g) from (congrArg nI (show 1 = (qStep t ey x y g) from by first | (simp [qStep, okStep, pr, rFr, frM, c_6, cif_F]; done) | (have kz : ¬ (pr ey (nI j_x) (nI j_y) ∧ rg g 21) := fun h => c_15 h.2; simp [qStep, okStep, rFr, frM, cif_neg kz]; done))))) (wvC (Eq.trans (congrArg (fun zz => oFr a zz lo) (show up = frM (qStep t ey x y g) (upStep t x y g) up from (show up = frM (qStep t ey x y g) (upStep t x y g) up from by first | (simp [qStep, okStep, pr, rFr, frM, c_6, cif_F]; done) | (have kz : ¬ (pr ey (nI j_x) (nI j_y) ∧ rg g 21) := fun h => c_15 h.2; simp [qStep, okStep, rFr, frM, cif_neg kz]; done)))) (congrArg (fun zz => oFr a (frM (qStep t ey x y g) (upStep t x y g) up) zz) (show lo = frM (qStep t ey x y g) (loStep t x y g) lo from (show lo = frM (qStep t ey x y g) (loStep t x y g) lo from by first | (simp [qStep, okStep, pr, rFr, frM, c_6, cif_F]; done) | (have kz : ¬ (pr ey (nI j_x) (nI j_y) ∧ rg g 21) := fun h => c_15 h.2; simp [qStep, okStep, rFr, frM, cif_neg kz]; done))))) (wvC rfl (wvC rfl (wvC rfl (wvC rfl (wvC rfl (wvC rfl (wvC rfl (wvC rfl rfl))))))))))
      rw [← ew]; exact hP
    exact W.iret (v := (-1)) hx hb hr (fun zt ht zw => ⟨⟨_, (bl, S, D, bS, bD, bF), rfl, ⟨(m1_o.trans (congrArg oI (show 0 = (rFr (qStep t ey x y g) (upStep t x y g)) from by first | (simp [qStep, okStep, pr, rFr, frM, c_6, cif_F]; done) | (have kz : ¬ (pr ey (nI j_x) (nI j_y) ∧ rg g 21) := fun h => c_15 h.2; simp [qStep, okStep, rFr, frM, cif_neg kz]; done)))), (by trivial)⟩, by show va_P _ _ _ zt.heap; rw [ht]; exact hP⟩, by rw [hAe]; exact hS.F ht⟩) hS.2.2 dX7_step_23
  obtain ⟨j_x, h_x, rfl⟩ := rg_ex c_6.1
  have e_x := nn_nI (j := j_x) (by omega)
  obtain ⟨j_y, h_y, rfl⟩ := rg_ex c_6.2.1
  have e_y := nn_nI (j := j_y) (by omega)
  have ne_x_y : j_x ≠ j_y := fun h => c_6.2.2 (congrArg nI h)
  refine lv_iload_n hx hb dX7_step_9 rfl (lv_at hl 3 rfl) ?_
  refine lv_bipush (v := nI 20) hx hb dX7_step_10 (by decide) ?_
  refine cro_i (va_runS (As := [.int g, .int (nI 20)]) (rest := []) ⟨hx, hb, hml, hown, hts⟩ (c_X7_isWithin l G cI cJ (x := g) (k := 20) (hk := by first | assumption | omega)) (va_cwS 2 hts gX7_step_X7_isWithin rfl rfl rfl (by decide +kernel) ⟨Nat.le_of_ble_eq_true rfl, Nat.le_of_ble_eq_true rfl⟩) (preS_ro (wc := []) hK hP [] rfl) rfl rfl hl.1 rfl (lv_room (Nat.le_of_ble_eq_true rfl)) dX7_step_12 ⟨Nat.zero_le _, Nat.zero_le _⟩) ?_
  refine nb_if_ne (tgt := 24) hx hb dX7_step_15 (by decide) (fun c_15 => ?_) (fun c_15 => ?_)
  · obtain ⟨j_g, h_g, rfl⟩ := rg_ex c_15
    have e_g := nn_nI (j := j_g) (by omega)
    refine lv_aload_n hx hb dX7_step_24 rfl (lv_at hl 0 rfl) ?_
    refine va_get (D := G) (own := RX7) (ref := "SpotRows") (ci := 7) (v := .ref (a 4)) (C := RX7) (T := TX7) (N := 8) hx hb hts hinX7 hown hK.1 hP 0 rfl rfl 3 (by decide) fl33 (fun _ h9 => h9) rfl dX7_step_25 ?_
    refine lv_aload_n hx hb dX7_step_28 rfl (lv_at hl 0 rfl) ?_
    refine va_get (D := G) (own := RX7) (ref := "SpotRows") (ci := 7) (v := .ref (a 2)) (C := RX7) (T := TX7) (N := 8) hx hb hts hinX7 hown hK.1 hP 0 rfl rfl 1 (by decide) fl19 (fun _ h9 => h9) rfl dX7_step_29 ?_
    refine lv_iload_n hx hb dX7_step_32 rfl (lv_at hl 1 rfl) ?_
    refine lv_iload_n hx hb dX7_step_33 rfl (lv_at hl 2 rfl) ?_
    refine crw_v (free := fun _ => True) (va_runV (As := [.ref (a 2), .int (nI j_x), .int (nI j_y)]) (rest := []) ⟨hx, hb, hml, hown, hts⟩ (c_X4_gather l G cI cJ (a := a) (bl := bl) (ey := nI ey) (le := le) (t := t) (S := S) (D := D) (x := j_x) (y := j_y) (tb := by first | assumption | omega) (h_x := by first | assumption | omega) (h_y := by first | assumption | omega)) (cwV 3 hts gX7_step_X4_gather rfl rfl rfl (by decide +kernel) ⟨Nat.le_of_ble_eq_true rfl, Nat.le_of_ble_eq_true rfl⟩) (preV_rw (wc := [oSt a bl, aI cI (a 16) 21 (nF S), aI cI (a 17) 21 (nF D), oTe a (nI ey) le, aI cI (a 11) 1920 (oF t)]) hK hP hD [4, 5, 6, 2, 3] rfl rfl 4 4 rfl rfl rfl) rfl rfl hl.1 rfl (lv_room (Nat.le_of_ble_eq_true rfl)) dX7_step_34 ⟨Nat.zero_le _, Nat.zero_le _⟩) hP hD hS [4, 5, 6, 2, 3] rfl [a 4, a 16, a 17, a 2, a 11] (fun u => rfl) rfl (fun u_ H locs hw_34 hP hD hS => ?_)
    have hP : va_P G vwCl [oX a oc, oFr a up lo, oTe a (nI ey) le, aI cI (a 11) 1920 (oF t), oSt a bl, aI cI (a 16) 21 (nF (lS t j_x j_y 240)), aI cI (a 17) 21 (nF (lD t j_x j_y 240)), aI cI (a 18) 21 (nF bS), aI cI (a 19) 21 (nF bD), aI cI (a 20) 21 (nF bF)] H := hP
    have hD : va_D A [oX a oc, oFr a up lo, oTe a (nI ey) le, aI cI (a 11) 1920 (oF t), oSt a bl, aI cI (a 16) 21 (nF (lS t j_x j_y 240)), aI cI (a 17) 21 (nF (lD t j_x j_y 240)), aI cI (a 18) 21 (nF bS), aI cI (a 19) 21 (nF bD), aI cI (a 20) 21 (nF bF)] := hD
    have hSD : ∀ i, lD t j_x j_y 240 i = 0 → lS t j_x j_y 240 i = 0 := fun i hi => by have := lS_lD tb j_x j_y 240 i; omega
    have hS1 := sS_tot tb j_x j_y
    have hD1 := lD_sum t j_x j_y 21 240
    refine lv_aload_n hx hb dX7_step_37 rfl (lv_at hl 0 rfl) ?_
    refine va_get (D := G) (own := RX7) (ref := "SpotRows") (ci := 7) (v := .ref (a 4)) (C := RX7) (T := TX7) (N := 8) hx hb hts hinX7 hown hK.1 hP 0 rfl rfl 3 (by decide) fl33 (fun _ h9 => h9) rfl dX7_step_38 ?_
    refine crw_v (free := fun _ => True) (va_runV (As := []) (rest := []) ⟨hx, hb, hml, hown, hts⟩ (c_X4_pool l G cI cJ (a := a) (bl := bl) (S := lS t j_x j_y 240) (D := lD t j_x j_y 240) (bS := bS) (bD := bD) (bF := bF) (hSD := hSD) (hS1 := hS1) (hD1 := hD1)) (cwV 0 hts gX7_step_X4_pool rfl rfl rfl (by decide +kernel) ⟨Nat.le_of_ble_eq_true rfl, Nat.le_of_ble_eq_true rfl⟩) (preV_rw (wc := [oSt a bl, aI cI (a 16) 21 (nF (lS t j_x j_y 240)), aI cI (a 17) 21 (nF (lD t j_x j_y 240)), aI cI (a 18) 21 (nF bS), aI cI (a 19) 21 (nF bD), aI cI (a 20) 21 (nF bF)]) hK hP hD [4, 5, 6, 7, 8, 9] rfl rfl 4 4 rfl rfl rfl) rfl rfl hl.1 rfl (lv_room (Nat.le_of_ble_eq_true rfl)) dX7_step_41 ⟨Nat.zero_le _, Nat.zero_le _⟩) hP hD hS [4, 5, 6, 7, 8, 9] rfl [a 4, a 16, a 17, a 18, a 19, a 20] (fun u => rfl) rfl (fun u_ H locs hw_41 hP hD hS => ?_)
    obtain ⟨n2_41, bS2_41, bD2_41, bF2_41⟩ := u_
    have hP : va_P G vwCl [oX a oc, oFr a up lo, oTe a (nI ey) le, aI cI (a 11) 1920 (oF t), oSt a (nI n2_41), aI cI (a 16) 21 (nF (lS t j_x j_y 240)), aI cI (a 17) 21 (nF (lD t j_x j_y 240)), aI cI (a 18) 21 (nF bS2_41), aI cI (a 19) 21 (nF bD2_41), aI cI (a 20) 21 (nF bF2_41)] H := hP
    have hD : va_D A [oX a oc, oFr a up lo, oTe a (nI ey) le, aI cI (a 11) 1920 (oF t), oSt a (nI n2_41), aI cI (a 16) 21 (nF (lS t j_x j_y 240)), aI cI (a 17) 21 (nF (lD t j_x j_y 240)), aI cI (a 18) 21 (nF bS2_41), aI cI (a 19) 21 (nF bD2_41), aI cI (a 20) 21 (nF bF2_41)] := hD
    have pvb := fun j hj => PV_b hw_41 (j := j) hj
    have pvn := hw_41.1.1
    refine lv_aload_n hx hb dX7_step_44 rfl (lv_at hl 0 rfl) ?_
    refine va_get (D := G) (own := RX7) (ref := "SpotRows") (ci := 7) (v := .ref (a 4)) (C := RX7) (T := TX7) (N := 8) hx hb hts hinX7 hown hK.1 hP 0 rfl rfl 3 (by decide) fl33 (fun _ h9 => h9) rfl dX7_step_45 ?_
    refine lv_iload_n hx hb dX7_step_48 rfl (lv_at hl 3 rfl) ?_
    refine cro_i (va_runV (As := [.int (nI j_g)]) (rest := []) ⟨hx, hb, hml, hown, hts⟩ (c_X4_blockFor l G cI cJ (a := a) (n := n2_41) (bF := bF2_41) (g := j_g) (hn := by omega) (hg := by omega) (hbf := fun j hj => (pvb j hj).2.2)) (cwV 1 hts gX7_step_X4_blockFor rfl rfl rfl (by decide +kernel) ⟨Nat.le_of_ble_eq_true rfl, Nat.le_of_ble_eq_true rfl⟩) (preV_ro (wc := [oSt a (nI n2_41), aI cI (a 20) 21 (nF bF2_41)]) hK hP [4, 9] rfl 4 4 rfl rfl rfl) rfl rfl hl.1 rfl (lv_room (Nat.le_of_ble_eq_true rfl)) dX7_step_49 ⟨Nat.zero_le _, Nat.zero_le _⟩) ?_
    refine lv_istore (lv' := [(4, .int (oI (bfo bF2_41 j_g n2_41))), (0, .ref (a 0)), (1, .int (nI j_x)), (2, .int (nI j_y)), (3, .int (nI j_g))]) hx hb dX7_step_52 hl (by decide) rfl (fun ls hl => ?_)
    have bfn : bfo bF2_41 j_g n2_41 ≤ 21 := by rcases Nat.eq_zero_or_pos (bfo bF2_41 j_g n2_41) with z | z; omega; have := (bfo_s (n := n2_41) (g := j_g) (bF := bF2_41) (by omega)).1; omega
    refine lv_iload hx hb dX7_step_54 (lv_at hl 0 rfl) ?_
    refine lv_iconst (v := (-1)) hx hb dX7_step_56 (by decide) ?_
    refine no_icmp_ne (tgt := 67) hx hb dX7_step_57 (by decide) (by omega) (fun c_57 => ?_) (fun c_57 => ?_)
    · obtain ⟨ef1, ef2⟩ := PV_some hw_41 hSD (by omega) c_57
      obtain ⟨j1, j2, j3⟩ := bfo_s c_57
      have pb := pvb _ j1
      have pd := (hw_41.2.1 _ j1).2.1
      obtain ⟨md1, md2⟩ := st_eq ef2
      have mp := pos_red (u := bS2_41 (bfo bF2_41 j_g n2_41 - 1)) pd
      rw [md1] at mp
      refine lv_aload_n hx hb dX7_step_67 rfl (lv_at hl 1 rfl) ?_
      refine lv_aload_n hx hb dX7_step_68 rfl (lv_at hl 1 rfl) ?_
      refine va_get (D := G) (own := RX7) (ref := "SpotRows") (ci := 7) (v := .ref (a 4)) (C := RX7) (T := TX7) (N := 8) hx hb hts hinX7 hown hK.1 hP 0 rfl rfl 3 (by decide) fl33 (fun _ h9 => h9) rfl dX7_step_69 ?_
      refine va_getN (D := G) (own := RX7) (host := "SpotRows") (ref := "SpotRows$Steps") (ci := 4) (v := .ref (a 18)) (C := RX4) (T := TX4) (N := 6) hx hb hts hinX4 hown hK.1 hP 4 rfl rfl 2 (by decide) fn198 (fun _ h9 => h9) rfl dX7_step_72 ?_
      refine lv_iload hx hb dX7_step_75 (lv_at hl 0 rfl) ?_
      refine toi (oI_pos (by first | assumption | omega)) ?_
      refine ld_nF hx hb hK hP 7 (k := bfo bF2_41 j_g n2_41 - 1) rfl (by omega) (by decide) dX7_step_77 ?_
      refine lv_aload_n hx hb dX7_step_78 rfl (lv_at hl 1 rfl) ?_
      refine va_get (D := G) (own := RX7) (ref := "SpotRows") (ci := 7) (v := .ref (a 4)) (C := RX7) (T := TX7) (N := 8) hx hb hts hinX7 hown hK.1 hP 0 rfl rfl 3 (by decide) fl33 (fun _ h9 => h9) rfl dX7_step_79 ?_
      refine va_getN (D := G) (own := RX7) (host := "SpotRows") (ref := "SpotRows$Steps") (ci := 4) (v := .ref (a 19)) (C := RX4) (T := TX4) (N := 6) hx hb hts hinX4 hown hK.1 hP 4 rfl rfl 3 (by decide) fn201 (fun _ h9 => h9) rfl dX7_step_82 ?_
      refine lv_iload hx hb dX7_step_85 (lv_at hl 0 rfl) ?_
      refine toi (oI_pos (by first | assumption | omega)) ?_
      refine ld_nF hx hb hK hP 8 (k := bfo bF2_41 j_g n2_41 - 1) rfl (by omega) (by decide) dX7_step_87 ?_
      refine crw_i (va_runV (As := [.int (nI (bS2_41 (bfo bF2_41 j_g n2_41 - 1))), .int (nI (bD2_41 (bfo bF2_41 j_g n2_41 - 1)))]) (rest := []) ⟨hx, hb, hml, hown, hts⟩ (c_X7_tellFraction l G cI cJ (a := a) (oc := oc) (up := up) (lo := lo) (x := bS2_41 (bfo bF2_41 j_g n2_41 - 1)) (y := bD2_41 (bfo bF2_41 j_g n2_41 - 1)) (h1 := by first | assumption | omega) (h2 := by first | assumption | omega) (h3 := by first | assumption | omega)) (cwV 2 hts gX7_step_X7_tellFraction rfl rfl rfl (by decide +kernel) ⟨Nat.le_of_ble_eq_true rfl, Nat.le_of_ble_eq_true rfl⟩) (preV_rw (wc := [oX a oc, oFr a up lo]) hK hP hD [0, 1] rfl rfl 7 0 rfl rfl rfl) rfl rfl hl.1 rfl (lv_room (Nat.le_of_ble_eq_true rfl)) dX7_step_88 ⟨Nat.zero_le _, Nat.zero_le _⟩) hP hD hS [0, 1] rfl [a 0, a 7] (fun u => rfl) rfl (fun r_88 u_ H locs hw_88 hP hD hS => ?_)
      have hP : va_P G vwCl [oX a (nI 0), oFr a (lN ((bS2_41 (bfo bF2_41 j_g n2_41 - 1)) / Nat.gcd (bS2_41 (bfo bF2_41 j_g n2_41 - 1)) (bD2_41 (bfo bF2_41 j_g n2_41 - 1)))) (lN ((bD2_41 (bfo bF2_41 j_g n2_41 - 1)) / Nat.gcd (bS2_41 (bfo bF2_41 j_g n2_41 - 1)) (bD2_41 (bfo bF2_41 j_g n2_41 - 1)))), oTe a (nI ey) le, aI cI (a 11) 1920 (oF t), oSt a (nI n2_41), aI cI (a 16) 21 (nF (lS t j_x j_y 240)), aI cI (a 17) 21 (nF (lD t j_x j_y 240)), aI cI (a 18) 21 (nF bS2_41), aI cI (a 19) 21 (nF bD2_41), aI cI (a 20) 21 (nF bF2_41)] H := hP
      have hD : va_D A [oX a (nI 0), oFr a (lN ((bS2_41 (bfo bF2_41 j_g n2_41 - 1)) / Nat.gcd (bS2_41 (bfo bF2_41 j_g n2_41 - 1)) (bD2_41 (bfo bF2_41 j_g n2_41 - 1)))) (lN ((bD2_41 (bfo bF2_41 j_g n2_41 - 1)) / Nat.gcd (bS2_41 (bfo bF2_41 j_g n2_41 - 1)) (bD2_41 (bfo bF2_41 j_g n2_41 - 1)))), oTe a (nI ey) le, aI cI (a 11) 1920 (oF t), oSt a (nI n2_41), aI cI (a 16) 21 (nF (lS t j_x j_y 240)), aI cI (a 17) 21 (nF (lD t j_x j_y 240)), aI cI (a 18) 21 (nF bS2_41), aI cI (a 19) 21 (nF bD2_41), aI cI (a 20) 21 (nF bF2_41)] := hD
      refine toi hw_88 ?_
      have hP : va_P G vwCl [oX a (nI (qStep t ey (nI j_x) (nI j_y) (nI j_g))), oFr a (frM (qStep t ey (nI j_x) (nI j_y) (nI j_g)) (upStep t (nI j_x) (nI j_y) (nI j_g)) up) (frM (qStep t ey (nI j_x) (nI j_y) (nI j_g)) (loStep t (nI j_x) (nI j_y) (nI j_g)) lo), oTe a (nI ey) le, aI cI (a 11) 1920 (oF t), oSt a (nI n2_41), aI cI (a 16) 21 (nF (lS t j_x j_y 240)), aI cI (a 17) 21 (nF (lD t j_x j_y 240)), aI cI (a 18) 21 (nF bS2_41), aI cI (a 19) 21 (nF bD2_41), aI cI (a 20) 21 (nF bF2_41)] H := by
        have ew : ([oX a (nI 0), oFr a (lN ((bS2_41 (bfo bF2_41 j_g n2_41 - 1)) / Nat.gcd (bS2_41 (bfo bF2_41 j_g n2_41 - 1)) (bD2_41 (bfo bF2_41 j_g n2_41 - 1)))) (lN ((bD2_41 (bfo bF2_41 j_g n2_41 - 1)) / Nat.gcd (bS2_41 (bfo bF2_41 j_g n2_41 - 1)) (bD2_41 (bfo bF2_41 j_g n2_41 - 1)))), oTe a (nI ey) le, aI cI (a 11) 1920 (oF t), oSt a (nI n2_41), aI cI (a 16) 21 (nF (lS t j_x j_y 240)), aI cI (a 17) 21 (nF (lD t j_x j_y 240)), aI cI (a 18) 21 (nF bS2_41), aI cI (a 19) 21 (nF bD2_41), aI cI (a 20) 21 (nF bF2_41)] : va_W) = [oX a (nI (qStep t ey (nI j_x) (nI j_y) (nI j_g))), oFr a (frM (qStep t ey (nI j_x) (nI j_y) (nI j_g)) (upStep t (nI j_x) (nI j_y) (nI j_g)) up) (frM (qStep t ey (nI j_x) (nI j_y) (nI j_g)) (loStep t (nI j_x) (nI j_y) (nI j_g)) lo), oTe a (nI ey) le, aI cI (a 11) 1920 (oF t), oSt a (nI n2_41), aI cI (a 16) 21 (nF (lS t j_x j_y 240)), aI cI (a 17) 21 (nF (lD t j_x j_y 240)), aI cI (a 18) 21 (nF bS2_41), aI cI (a 19) 21 (nF bD2_41), aI cI (a 20) 21 (nF bF2_41)] := (wvC (congrArg (fun zz => oX a zz) (show nI 0 = nI (qStep t ey (nI j_x) (nI j_y) (nI j_g)) from (congrArg nI (show 0 = (qStep t ey (nI j_x) (nI j_y) (nI j_g)) from by have kq : qStep t ey (nI j_x) (nI j_y) (nI j_g) = 0 := (by rw [qStep, cif_pos ⟨c_6, c_15⟩, e_x, e_y, e_g, if_neg ef1]); first | exact kq.symm | (rw [frM, if_pos kq, upStep, e_x, e_y, e_g, md1]; done) | (rw [frM, if_pos kq, loStep, e_x, e_y, e_g, md2]; done) | (rw [rFr, if_pos kq, upStep, e_x, e_y, e_g]; by_cases q : 0 < bS2_41 (bfo bF2_41 j_g n2_41 - 1); (rw [if_pos q, if_pos (mp.mpr q)]); (rw [if_neg q, if_neg (fun z => q (mp.mp z))])))))) (wvC (Eq.trans (congrArg (fun zz => oFr a zz (lN ((bD2_41 (bfo bF2_41 j_g n2_41 - 1)) / Nat.gcd (bS2_41 (bfo bF2_41 j_g n2_41 - 1)) (bD2_41 (bfo bF2_41 j_g n2_41 - 1))))) (show lN ((bS2_41 (bfo bF2_41 j_g n2_41 - 1)) / Nat.gcd (bS2_41 (bfo bF2_41 j_g n2_41 - 1)) (bD2_41 (bfo bF2_41 j_g n2_41 - 1))) = frM (qStep t ey (nI j_x) (nI j_y) (nI j_g)) (upStep t (nI j_x) (nI j_y) (nI j_g)) up from (show lN ((bS2_41 (bfo bF2_41 j_g n2_41 - 1)) / Nat.gcd (bS2_41 (bfo bF2_41 j_g n2_41 - 1)) (bD2_41 (bfo bF2_41 j_g n2_41 - 1))) = frM (qStep t ey (nI j_x) (nI j_y) (nI j_g)) (upStep t (nI j_x) (nI j_y) (nI j_g)) up from by have kq : qStep t ey (nI j_x) (nI j_y) (nI j_g) = 0 := (by rw [qStep, cif_pos ⟨c_6, c_15⟩, e_x, e_y, e_g, if_neg ef1]); first | exact kq.symm | (rw [frM, if_pos kq, upStep, e_x, e_y, e_g, md1]; done) | (rw [frM, if_pos kq, loStep, e_x, e_y, e_g, md2]; done) | (rw [rFr, if_pos kq, upStep, e_x, e_y, e_g]; by_cases q : 0 < bS2_41 (bfo bF2_41 j_g n2_41 - 1); (rw [if_pos q, if_pos (mp.mpr q)]); (rw [if_neg q, if_neg (fun z => q (mp.mp z))]))))) (congrArg (fun zz => oFr a (frM (qStep t ey (nI j_x) (nI j_y) (nI j_g)) (upStep t (nI j_x) (nI j_y) (nI j_g)) up) zz) (show lN ((bD2_41 (bfo bF2_41 j_g n2_41 - 1)) / Nat.gcd (bS2_41 (bfo bF2_41 j_g n2_41 - 1)) (bD2_41 (bfo bF2_41 j_g n2_41 - 1))) = frM (qStep t ey (nI j_x) (nI j_y) (nI j_g)) (loStep t (nI j_x) (nI j_y) (nI j_g)) lo from (show lN ((bD2_41 (bfo bF2_41 j_g n2_41 - 1)) / Nat.gcd (bS2_41 (bfo bF2_41 j_g n2_41 - 1)) (bD2_41 (bfo bF2_41 j_g n2_41 - 1))) = frM (qStep t ey (nI j_x) (nI j_y) (nI j_g)) (loStep t (nI j_x) (nI j_y) (nI j_g)) lo from by have kq : qStep t ey (nI j_x) (nI j_y) (nI j_g) = 0 := (by rw [qStep, cif_pos ⟨c_6, c_15⟩, e_x, e_y, e_g, if_neg ef1]); first | exact kq.symm | (rw [frM, if_pos kq, upStep, e_x, e_y, e_g, md1]; done) | (rw [frM, if_pos kq, loStep, e_x, e_y, e_g, md2]; done) | (rw [rFr, if_pos kq, upStep, e_x, e_y, e_g]; by_cases q : 0 < bS2_41 (bfo bF2_41 j_g n2_41 - 1); (rw [if_pos q, if_pos (mp.mpr q)]); (rw [if_neg q, if_neg (fun z => q (mp.mp z))])))))) (wvC rfl (wvC rfl (wvC rfl (wvC rfl (wvC rfl (wvC rfl (wvC rfl (wvC rfl rfl))))))))))
        rw [← ew]; exact hP
      exact W.iret (v := nI (if 0 < (bS2_41 (bfo bF2_41 j_g n2_41 - 1)) then 1 else 0)) hx hb hr (fun zt ht zw => ⟨⟨_, (nI n2_41, (lS t j_x j_y 240), (lD t j_x j_y 240), bS2_41, bD2_41, bF2_41), rfl, ⟨((nI_o (if 0 < (bS2_41 (bfo bF2_41 j_g n2_41 - 1)) then 1 else 0)).trans (congrArg oI (show (if 0 < (bS2_41 (bfo bF2_41 j_g n2_41 - 1)) then 1 else 0) + 1 = (rFr (qStep t ey (nI j_x) (nI j_y) (nI j_g)) (upStep t (nI j_x) (nI j_y) (nI j_g))) from by have kq : qStep t ey (nI j_x) (nI j_y) (nI j_g) = 0 := (by rw [qStep, cif_pos ⟨c_6, c_15⟩, e_x, e_y, e_g, if_neg ef1]); first | exact kq.symm | (rw [frM, if_pos kq, upStep, e_x, e_y, e_g, md1]; done) | (rw [frM, if_pos kq, loStep, e_x, e_y, e_g, md2]; done) | (rw [rFr, if_pos kq, upStep, e_x, e_y, e_g]; by_cases q : 0 < bS2_41 (bfo bF2_41 j_g n2_41 - 1); (rw [if_pos q, if_pos (mp.mpr q)]); (rw [if_neg q, if_neg (fun z => q (mp.mp z))]))))), (by trivial)⟩, by show va_P _ _ _ zt.heap; rw [ht]; exact hP⟩, by rw [hAe]; exact hS.F ht⟩) hS.2.2 dX7_step_91
    refine lv_aload_n hx hb dX7_step_60 rfl (lv_at hl 1 rfl) ?_
    refine lv_bipush (v := nI 6) hx hb dX7_step_61 (by decide) ?_
    refine crw_i (va_runV (As := [.int (nI 6)]) (rest := []) ⟨hx, hb, hml, hown, hts⟩ (c_X7_lack l G cI cJ (a := a) (oc := oc) (w := nI 6) ) (cwV 1 hts gX7_step_X7_lack rfl rfl rfl (by decide +kernel) ⟨Nat.le_of_ble_eq_true rfl, Nat.le_of_ble_eq_true rfl⟩) (preV_rw (wc := [oX a oc]) hK hP hD [0] rfl rfl 7 0 rfl rfl rfl) rfl rfl hl.1 rfl (lv_room (Nat.le_of_ble_eq_true rfl)) dX7_step_63 ⟨Nat.zero_le _, Nat.zero_le _⟩) hP hD hS [0] rfl [a 0] (fun u => rfl) rfl (fun r_63 u_ H locs hw_63 hP hD hS => ?_)
    have hP : va_P G vwCl [oX a (nI 6), oFr a up lo, oTe a (nI ey) le, aI cI (a 11) 1920 (oF t), oSt a (nI n2_41), aI cI (a 16) 21 (nF (lS t j_x j_y 240)), aI cI (a 17) 21 (nF (lD t j_x j_y 240)), aI cI (a 18) 21 (nF bS2_41), aI cI (a 19) 21 (nF bD2_41), aI cI (a 20) 21 (nF bF2_41)] H := hP
    have hD : va_D A [oX a (nI 6), oFr a up lo, oTe a (nI ey) le, aI cI (a 11) 1920 (oF t), oSt a (nI n2_41), aI cI (a 16) 21 (nF (lS t j_x j_y 240)), aI cI (a 17) 21 (nF (lD t j_x j_y 240)), aI cI (a 18) 21 (nF bS2_41), aI cI (a 19) 21 (nF bD2_41), aI cI (a 20) 21 (nF bF2_41)] := hD
    refine toi hw_63 ?_
    have hP : va_P G vwCl [oX a (nI (qStep t ey (nI j_x) (nI j_y) (nI j_g))), oFr a (frM (qStep t ey (nI j_x) (nI j_y) (nI j_g)) (upStep t (nI j_x) (nI j_y) (nI j_g)) up) (frM (qStep t ey (nI j_x) (nI j_y) (nI j_g)) (loStep t (nI j_x) (nI j_y) (nI j_g)) lo), oTe a (nI ey) le, aI cI (a 11) 1920 (oF t), oSt a (nI n2_41), aI cI (a 16) 21 (nF (lS t j_x j_y 240)), aI cI (a 17) 21 (nF (lD t j_x j_y 240)), aI cI (a 18) 21 (nF bS2_41), aI cI (a 19) 21 (nF bD2_41), aI cI (a 20) 21 (nF bF2_41)] H := by
      have ew : ([oX a (nI 6), oFr a up lo, oTe a (nI ey) le, aI cI (a 11) 1920 (oF t), oSt a (nI n2_41), aI cI (a 16) 21 (nF (lS t j_x j_y 240)), aI cI (a 17) 21 (nF (lD t j_x j_y 240)), aI cI (a 18) 21 (nF bS2_41), aI cI (a 19) 21 (nF bD2_41), aI cI (a 20) 21 (nF bF2_41)] : va_W) = [oX a (nI (qStep t ey (nI j_x) (nI j_y) (nI j_g))), oFr a (frM (qStep t ey (nI j_x) (nI j_y) (nI j_g)) (upStep t (nI j_x) (nI j_y) (nI j_g)) up) (frM (qStep t ey (nI j_x) (nI j_y) (nI j_g)) (loStep t (nI j_x) (nI j_y) (nI j_g)) lo), oTe a (nI ey) le, aI cI (a 11) 1920 (oF t), oSt a (nI n2_41), aI cI (a 16) 21 (nF (lS t j_x j_y 240)), aI cI (a 17) 21 (nF (lD t j_x j_y 240)), aI cI (a 18) 21 (nF bS2_41), aI cI (a 19) 21 (nF bD2_41), aI cI (a 20) 21 (nF bF2_41)] := (wvC (congrArg (fun zz => oX a zz) (show nI 6 = nI (qStep t ey (nI j_x) (nI j_y) (nI j_g)) from (congrArg nI (show 6 = (qStep t ey (nI j_x) (nI j_y) (nI j_g)) from by have kq : qStep t ey (nI j_x) (nI j_y) (nI j_g) = 6 := (by rw [qStep, cif_pos ⟨c_6, c_15⟩, e_x, e_y, e_g, if_pos (PV_none hw_41 (by omega) c_57)]); first | exact kq.symm | (simp [rFr, frM, kq]; done))))) (wvC (Eq.trans (congrArg (fun zz => oFr a zz lo) (show up = frM (qStep t ey (nI j_x) (nI j_y) (nI j_g)) (upStep t (nI j_x) (nI j_y) (nI j_g)) up from (show up = frM (qStep t ey (nI j_x) (nI j_y) (nI j_g)) (upStep t (nI j_x) (nI j_y) (nI j_g)) up from by have kq : qStep t ey (nI j_x) (nI j_y) (nI j_g) = 6 := (by rw [qStep, cif_pos ⟨c_6, c_15⟩, e_x, e_y, e_g, if_pos (PV_none hw_41 (by omega) c_57)]); first | exact kq.symm | (simp [rFr, frM, kq]; done)))) (congrArg (fun zz => oFr a (frM (qStep t ey (nI j_x) (nI j_y) (nI j_g)) (upStep t (nI j_x) (nI j_y) (nI j_g)) up) zz) (show lo = frM (qStep t ey (nI j_x) (nI j_y) (nI j_g)) (loStep t (nI j_x) (nI j_y) (nI j_g)) lo from (show lo = frM (qStep t ey (nI j_x) (nI j_y) (nI j_g)) (loStep t (nI j_x) (nI j_y) (nI j_g)) lo from by have kq : qStep t ey (nI j_x) (nI j_y) (nI j_g) = 6 := (by rw [qStep, cif_pos ⟨c_6, c_15⟩, e_x, e_y, e_g, if_pos (PV_none hw_41 (by omega) c_57)]); first | exact kq.symm | (simp [rFr, frM, kq]; done))))) (wvC rfl (wvC rfl (wvC rfl (wvC rfl (wvC rfl (wvC rfl (wvC rfl (wvC rfl rfl))))))))))
      rw [← ew]; exact hP
    exact W.iret (v := (-1)) hx hb hr (fun zt ht zw => ⟨⟨_, (nI n2_41, (lS t j_x j_y 240), (lD t j_x j_y 240), bS2_41, bD2_41, bF2_41), rfl, ⟨(m1_o.trans (congrArg oI (show 0 = (rFr (qStep t ey (nI j_x) (nI j_y) (nI j_g)) (upStep t (nI j_x) (nI j_y) (nI j_g))) from by have kq : qStep t ey (nI j_x) (nI j_y) (nI j_g) = 6 := (by rw [qStep, cif_pos ⟨c_6, c_15⟩, e_x, e_y, e_g, if_pos (PV_none hw_41 (by omega) c_57)]); first | exact kq.symm | (simp [rFr, frM, kq]; done)))), (by trivial)⟩, by show va_P _ _ _ zt.heap; rw [ht]; exact hP⟩, by rw [hAe]; exact hS.F ht⟩) hS.2.2 dX7_step_66
  refine lv_aload_n hx hb dX7_step_18 rfl (lv_at hl 0 rfl) ?_
  refine lv_iconst (v := nI 1) hx hb dX7_step_19 (by decide) ?_
  refine crw_i (va_runV (As := [.int (nI 1)]) (rest := []) ⟨hx, hb, hml, hown, hts⟩ (c_X7_lack l G cI cJ (a := a) (oc := oc) (w := nI 1) ) (cwV 1 hts gX7_step_X7_lack rfl rfl rfl (by decide +kernel) ⟨Nat.le_of_ble_eq_true rfl, Nat.le_of_ble_eq_true rfl⟩) (preV_rw (wc := [oX a oc]) hK hP hD [0] rfl rfl 7 0 rfl rfl rfl) rfl rfl hl.1 rfl (lv_room (Nat.le_of_ble_eq_true rfl)) dX7_step_20 ⟨Nat.zero_le _, Nat.zero_le _⟩) hP hD hS [0] rfl [a 0] (fun u => rfl) rfl (fun r_20 u_ H locs hw_20 hP hD hS => ?_)
  have hP : va_P G vwCl [oX a (nI 1), oFr a up lo, oTe a (nI ey) le, aI cI (a 11) 1920 (oF t), oSt a bl, aI cI (a 16) 21 (nF S), aI cI (a 17) 21 (nF D), aI cI (a 18) 21 (nF bS), aI cI (a 19) 21 (nF bD), aI cI (a 20) 21 (nF bF)] H := hP
  have hD : va_D A [oX a (nI 1), oFr a up lo, oTe a (nI ey) le, aI cI (a 11) 1920 (oF t), oSt a bl, aI cI (a 16) 21 (nF S), aI cI (a 17) 21 (nF D), aI cI (a 18) 21 (nF bS), aI cI (a 19) 21 (nF bD), aI cI (a 20) 21 (nF bF)] := hD
  refine toi hw_20 ?_
  have hP : va_P G vwCl [oX a (nI (qStep t ey (nI j_x) (nI j_y) g)), oFr a (frM (qStep t ey (nI j_x) (nI j_y) g) (upStep t (nI j_x) (nI j_y) g) up) (frM (qStep t ey (nI j_x) (nI j_y) g) (loStep t (nI j_x) (nI j_y) g) lo), oTe a (nI ey) le, aI cI (a 11) 1920 (oF t), oSt a bl, aI cI (a 16) 21 (nF S), aI cI (a 17) 21 (nF D), aI cI (a 18) 21 (nF bS), aI cI (a 19) 21 (nF bD), aI cI (a 20) 21 (nF bF)] H := by
    have ew : ([oX a (nI 1), oFr a up lo, oTe a (nI ey) le, aI cI (a 11) 1920 (oF t), oSt a bl, aI cI (a 16) 21 (nF S), aI cI (a 17) 21 (nF D), aI cI (a 18) 21 (nF bS), aI cI (a 19) 21 (nF bD), aI cI (a 20) 21 (nF bF)] : va_W) = [oX a (nI (qStep t ey (nI j_x) (nI j_y) g)), oFr a (frM (qStep t ey (nI j_x) (nI j_y) g) (upStep t (nI j_x) (nI j_y) g) up) (frM (qStep t ey (nI j_x) (nI j_y) g) (loStep t (nI j_x) (nI j_y) g) lo), oTe a (nI ey) le, aI cI (a 11) 1920 (oF t), oSt a bl, aI cI (a 16) 21 (nF S), aI cI (a 17) 21 (nF D), aI cI (a 18) 21 (nF bS), aI cI (a 19) 21 (nF bD), aI cI (a 20) 21 (nF bF)] := (wvC (congrArg (fun zz => oX a zz) (show nI 1 = nI (qStep t ey (nI j_x) (nI j_y) g) from (congrArg nI (show 1 = (qStep t ey (nI j_x) (nI j_y) g) from by first | (simp [qStep, okStep, pr, rFr, frM, c_6, cif_F]; done) | (have kz : ¬ (pr ey (nI j_x) (nI j_y) ∧ rg g 21) := fun h => c_15 h.2; simp [qStep, okStep, rFr, frM, cif_neg kz]; done))))) (wvC (Eq.trans (congrArg (fun zz => oFr a zz lo) (show up = frM (qStep t ey (nI j_x) (nI j_y) g) (upStep t (nI j_x) (nI j_y) g) up from (show up = frM (qStep t ey (nI j_x) (nI j_y) g) (upStep t (nI j_x) (nI j_y) g) up from by first | (simp [qStep, okStep, pr, rFr, frM, c_6, cif_F]; done) | (have kz : ¬ (pr ey (nI j_x) (nI j_y) ∧ rg g 21) := fun h => c_15 h.2; simp [qStep, okStep, rFr, frM, cif_neg kz]; done)))) (congrArg (fun zz => oFr a (frM (qStep t ey (nI j_x) (nI j_y) g) (upStep t (nI j_x) (nI j_y) g) up) zz) (show lo = frM (qStep t ey (nI j_x) (nI j_y) g) (loStep t (nI j_x) (nI j_y) g) lo from (show lo = frM (qStep t ey (nI j_x) (nI j_y) g) (loStep t (nI j_x) (nI j_y) g) lo from by first | (simp [qStep, okStep, pr, rFr, frM, c_6, cif_F]; done) | (have kz : ¬ (pr ey (nI j_x) (nI j_y) ∧ rg g 21) := fun h => c_15 h.2; simp [qStep, okStep, rFr, frM, cif_neg kz]; done))))) (wvC rfl (wvC rfl (wvC rfl (wvC rfl (wvC rfl (wvC rfl (wvC rfl (wvC rfl rfl))))))))))
    rw [← ew]; exact hP
  exact W.iret (v := (-1)) hx hb hr (fun zt ht zw => ⟨⟨_, (bl, S, D, bS, bD, bF), rfl, ⟨(m1_o.trans (congrArg oI (show 0 = (rFr (qStep t ey (nI j_x) (nI j_y) g) (upStep t (nI j_x) (nI j_y) g)) from by first | (simp [qStep, okStep, pr, rFr, frM, c_6, cif_F]; done) | (have kz : ¬ (pr ey (nI j_x) (nI j_y) ∧ rg g 21) := fun h => c_15 h.2; simp [qStep, okStep, rFr, frM, cif_neg kz]; done)))), (by trivial)⟩, by show va_P _ _ _ zt.heap; rw [ht]; exact hP⟩, by rw [hAe]; exact hS.F ht⟩) hS.2.2 dX7_step_23
