set_option maxHeartbeats 400000 in
set_option maxRecDepth 100000 in
theorem c_X0_reach (l : Launch) (G : va_G) (cI cJ : ClassId) (a : Nat → Nat) (ey : Nat) (le : Nat) (t : Nat → Nat) (bd : Nat → Int32) (bs : Nat → Int32) (ln : Nat → Nat) (wd : Nat → Nat) (e : Nat) (lk : Nat) (tb : TB t) (hT : TT t bd bs) (hey : ey ≤ 8) (hle : le ≤ 100) (lb : ∀ i, ln i ≤ 8) (wdb : ∀ i, wd i ≤ 240) (he : e < 8) (hlk : 1 ≤ lk ∧ lk ≤ 7) (h0 : ln e = 0) (hw0 : wd e = 0) : Met l yX0_reach wsX0_reach ({ frames := 1, cells := 0, slots := 0, locals := 30 }) (rwP G cI cJ [.ref (a 5), .ref (a 2), .int (nI e), .int (nI lk)] [oCh a, aI cI (a 21) 8 (oF ln), aI cI (a 22) 8 (nF wd), oTe a (nI ey) (nI le), aI cI (a 12) 64 bd, aI cI (a 13) 64 bs]) (rwQv G [oCh a, aI cI (a 21) 8 (oF ln), aI cI (a 22) 8 (nF wd), oTe a (nI ey) (nI le), aI cI (a 12) 64 bd, aI cI (a 13) 64 bs] (fun (_ : Unit) => True) (fun (_ : Unit) => [oCh a, aI cI (a 21) 8 (oF (rcL t le ln e lk ey)), aI cI (a 22) 8 (nF (rcW t le ln wd e lk ey)), oTe a (nI ey) (nI le), aI cI (a 12) 64 bd, aI cI (a 13) 64 bs])) 0 0 (ads [oCh a, aI cI (a 21) 8 (oF ln), aI cI (a 22) 8 (nF wd), oTe a (nI ey) (nI le), aI cI (a 12) 64 bd, aI cI (a 13) 64 bs]) := by
  refine Met.ofW (cc := cX0_reach) (maxL := 6) (ret := none) (by decide) rfl ?_
  intro pg ev s mt args below meth cd s₁ B hml hv
  obtain ⟨rfl, hP, hD0, hK⟩ := hv
  have hx := B.exec
  have hb := B.bytes
  have hr := B.returns
  have hts := atoms_spec (ws := wsX0_reach) B.pre
  have hown : s.vm.findClass RX0 = some mt.cls := findClass_of_methodNamed B.named
  have hlocks := B.notSynchronized
  have hD := ads_self hD0
  generalize hAe : ads [oCh a, aI cI (a 21) 8 (oF ln), aI cI (a 22) 8 (nF wd), oTe a (nI ey) (nI le), aI cI (a 12) 64 bd, aI cI (a 13) 64 bs] = A at hD ⊢
  have hS : va_S A s.heap s.heap [] := va_S.rf
  have hP : va_P G vwCl [oCh a, aI cI (a 21) 8 (oF ln), aI cI (a 22) 8 (nF wd), oTe a (nI ey) (nI le), aI cI (a 12) 64 bd, aI cI (a 13) 64 bs] s.heap := hP
  have hinX5 := (show ∀ w ∈ u_ws RX5 TX5 5, w ∈ wsX0_reach by decide +kernel)
  have fn30 := va_Nw.use (A := ([.ref (a 5), .ref (a 2), .int (nI e), .int (nI lk)] : List Value).toArray) rfl (hK.2.1 (.fieldLinkNest "SpotRows$Chains" 30 "SpotRows$Tellings" "eyes" "I" "SpotRows") (by decide +kernel))
  have hinX0 := (show ∀ w ∈ u_ws RX0 TX0 4, w ∈ wsX0_reach by decide +kernel)
  have fl9 := hts (.fieldLink RX0 9 "SpotRows$Chains" "links" "[I") (by decide +kernel)
  have fl15 := hts (.fieldLink RX0 15 "SpotRows$Chains" "widths" "[I") (by decide +kernel)
  have hl := lv_entry ([.ref (a 5), .ref (a 2), .int (nI e), .int (nI lk)]) (n := 6) (Nat.le_of_ble_eq_true rfl)
  rw [lg_entry_eq]
  generalize (lg_sl ([.ref (a 5), .ref (a 2), .int (nI e), .int (nI lk)]) ++ List.replicate (6 - (lg_sl ([.ref (a 5), .ref (a 2), .int (nI e), .int (nI lk)])).length) Slot.unset).toArray = ls at hl ⊢
  have hl : lv_has ls 6 [(0, .ref (a 5)), (1, .ref (a 2)), (2, .int (nI e)), (3, .int (nI lk))] := hl
  refine lv_iconst (v := nI 0) hx hb dX0_reach_0 (by decide) ?_
  refine lv_istore (lv' := [(4, .int (nI 0)), (0, .ref (a 5)), (1, .ref (a 2)), (2, .int (nI e)), (3, .int (nI lk))]) hx hb dX0_reach_1 hl (by decide) rfl (fun ls hl => ?_)
  have lp_3 : ∀ (nf : Nat) (k : Nat), (k ≤ ey) → ey - k < nf → ∀ (H : Heap) (locs : List Loc), va_P G vwCl [oCh a, aI cI (a 21) 8 (oF (rcL t le ln e lk k)), aI cI (a 22) 8 (nF (rcW t le ln wd e lk k)), oTe a (nI ey) (nI le), aI cI (a 12) 64 bd, aI cI (a 13) 64 bs] H → va_D A [oCh a, aI cI (a 21) 8 (oF (rcL t le ln e lk k)), aI cI (a 22) 8 (nF (rcW t le ln wd e lk k)), oTe a (nI ey) (nI le), aI cI (a 12) 64 bd, aI cI (a 13) 64 bs] → va_S A s.heap H locs → ∀ (ls : Array Slot), lv_has ls 6 [(0, .ref (a 5)), (1, .ref (a 2)), (2, .int (nI e)), (3, .int (nI lk)), (4, .int (nI k))] → W pg l ev (headSpec wsX0_reach ({ frames := 1, cells := 0, slots := 0, locals := 30 })).room s mt ([.ref (a 5), .ref (a 2), .int (nI e), .int (nI lk)] : List Value).toArray below meth cd H locs 0 0 (MQ below (rwQv G [oCh a, aI cI (a 21) 8 (oF ln), aI cI (a 22) 8 (nF wd), oTe a (nI ey) (nI le), aI cI (a 12) 64 bd, aI cI (a 13) 64 bs] (fun (_ : Unit) => True) (fun (_ : Unit) => [oCh a, aI cI (a 21) 8 (oF (rcL t le ln e lk ey)), aI cI (a 22) 8 (nF (rcW t le ln wd e lk ey)), oTe a (nI ey) (nI le), aI cI (a 12) 64 bd, aI cI (a 13) 64 bs])) ([.ref (a 5), .ref (a 2), .int (nI e), .int (nI lk)] : List Value).toArray s 0 0 A) (F0 mt 3 ls []) := by
    intro nf
    induction nf with
    | zero => intro k hk hfu; exact absurd hfu (Nat.not_lt_zero _)
    | succ nf ih_3 =>
      intro k hk hfu H locs hP hD hS ls hl
      have f1 := mxw_le t le ln wd e lk k
      have f2 := wdb k
      have f3 := cB_le t e k 240
      refine lv_iload hx hb dX0_reach_3 (lv_at hl 4 rfl) ?_
      refine lv_aload_n hx hb dX0_reach_5 rfl (lv_at hl 1 rfl) ?_
      refine va_getN (D := G) (own := RX0) (host := "SpotRows") (ref := "SpotRows$Tellings") (ci := 5) (v := .int (nI ey)) (C := RX5) (T := TX5) (N := 5) hx hb hts hinX5 hown hK.1 hP 3 rfl rfl 3 (by decide) fn30 (fun _ h9 => h9) rfl dX0_reach_6 ?_
      refine nv_icmp_ge (tgt := 85) hx hb dX0_reach_9 (by decide) (by first | omega | exact Nat.le_trans (rcL_le lb hlk.2) (by decide) | exact Nat.lt_of_le_of_lt (rcW_le wdb) (by decide) | exact Nat.le_trans (fc_le _ _ _ _) (by decide) | exact Nat.lt_of_le_of_lt (cB_le _ _ _ _) (by decide)) (by first | omega | exact Nat.le_trans (rcL_le lb hlk.2) (by decide) | exact Nat.lt_of_le_of_lt (rcW_le wdb) (by decide) | exact Nat.le_trans (fc_le _ _ _ _) (by decide) | exact Nat.lt_of_le_of_lt (cB_le _ _ _ _) (by decide)) (fun c_9 => ?_) (fun c_9 => ?_)
      · have hP : va_P G vwCl [oCh a, aI cI (a 21) 8 (oF (rcL t le ln e lk ey)), aI cI (a 22) 8 (nF (rcW t le ln wd e lk ey)), oTe a (nI ey) (nI le), aI cI (a 12) 64 bd, aI cI (a 13) 64 bs] H := by
          have ew : ([oCh a, aI cI (a 21) 8 (oF (rcL t le ln e lk k)), aI cI (a 22) 8 (nF (rcW t le ln wd e lk k)), oTe a (nI ey) (nI le), aI cI (a 12) 64 bd, aI cI (a 13) 64 bs] : va_W) = [oCh a, aI cI (a 21) 8 (oF (rcL t le ln e lk ey)), aI cI (a 22) 8 (nF (rcW t le ln wd e lk ey)), oTe a (nI ey) (nI le), aI cI (a 12) 64 bd, aI cI (a 13) 64 bs] := (wvC rfl (wvC (congrArg (fun z => aI cI (a 21) 8 (oF z)) (show rcL t le ln e lk k = rcL t le ln e lk ey from by rw [show k = ey from by omega])) (wvC (congrArg (fun z => aI cI (a 22) 8 (nF z)) (show rcW t le ln wd e lk k = rcW t le ln wd e lk ey from by rw [show k = ey from by omega])) (wvC rfl (wvC rfl (wvC rfl rfl))))))
          rw [← ew]; exact hP
        exact W.vret hx hb hr (fun zt ht zw => ⟨⟨(), rfl, trivial, by show va_P _ _ _ zt.heap; rw [ht]; exact hP⟩, by rw [hAe]; exact hS.F ht⟩) hS.2.2 dX0_reach_85
      refine lv_aload_n hx hb dX0_reach_12 rfl (lv_at hl 0 rfl) ?_
      refine va_get (D := G) (own := RX0) (ref := "SpotRows$Chains") (ci := 0) (v := .ref (a 21)) (C := RX0) (T := TX0) (N := 4) hx hb hts hinX0 hown hK.1 hP 0 rfl rfl 0 (by decide) fl9 (fun _ h9 => h9) rfl dX0_reach_13 ?_
      refine lv_iload hx hb dX0_reach_16 (lv_at hl 4 rfl) ?_
      refine ld_oF hx hb hK hP 1 (k := k) rfl (by first | omega | exact Nat.le_trans (rcL_le lb hlk.2) (by decide) | exact Nat.lt_of_le_of_lt (rcW_le wdb) (by decide) | exact Nat.le_trans (fc_le _ _ _ _) (by decide) | exact Nat.lt_of_le_of_lt (cB_le _ _ _ _) (by decide)) (by decide) dX0_reach_18 ?_
      refine lv_iload_n hx hb dX0_reach_19 rfl (lv_at hl 3 rfl) ?_
      refine lv_iconst (v := nI 1) hx hb dX0_reach_20 (by decide) ?_
      refine lv_isub hx hb dX0_reach_21 ?_
      refine toi (pk_sub (a := lk) (b := 1) (by first | omega | exact Nat.le_trans (rcL_le lb hlk.2) (by decide) | exact Nat.lt_of_le_of_lt (rcW_le wdb) (by decide) | exact Nat.le_trans (fc_le _ _ _ _) (by decide) | exact Nat.lt_of_le_of_lt (cB_le _ _ _ _) (by decide))) ?_
      refine non_icmp_ne (tgt := 79) hx hb dX0_reach_22 (by decide) (by first | omega | exact Nat.le_trans (rcL_le lb hlk.2) (by decide) | exact Nat.lt_of_le_of_lt (rcW_le wdb) (by decide) | exact Nat.le_trans (fc_le _ _ _ _) (by decide) | exact Nat.lt_of_le_of_lt (cB_le _ _ _ _) (by decide)) (by first | omega | exact Nat.le_trans (rcL_le lb hlk.2) (by decide) | exact Nat.lt_of_le_of_lt (rcW_le wdb) (by decide) | exact Nat.le_trans (fc_le _ _ _ _) (by decide) | exact Nat.lt_of_le_of_lt (cB_le _ _ _ _) (by decide)) (fun c_22 => ?_) (fun c_22 => ?_)
      · refine lv_iinc (v := nI (k + 1)) (lv' := [(4, .int (nI (k + 1))), (0, .ref (a 5)), (1, .ref (a 2)), (2, .int (nI e)), (3, .int (nI lk))]) hx hb dX0_reach_79 hl (k := 4) rfl (nI_add k 1) (by decide) rfl (fun ls hl => ?_)
        refine lv_goto (tgt := 3) hx hb dX0_reach_82 (by decide) ?_
        have hw_3 : ([oCh a, aI cI (a 21) 8 (oF (rcL t le ln e lk k)), aI cI (a 22) 8 (nF (rcW t le ln wd e lk k)), oTe a (nI ey) (nI le), aI cI (a 12) 64 bd, aI cI (a 13) 64 bs] : va_W) = [oCh a, aI cI (a 21) 8 (oF (rcL t le ln e lk (k + 1))), aI cI (a 22) 8 (nF (rcW t le ln wd e lk (k + 1))), oTe a (nI ey) (nI le), aI cI (a 12) 64 bd, aI cI (a 13) 64 bs] := (wvC rfl (wvC (congrArg (fun z => aI cI (a 21) 8 (oF z)) (show rcL t le ln e lk k = rcL t le ln e lk (k + 1) from by first | exact (rcL_no (fun h => c_22 (by have h9 := (rcL_same (t := t) (le := le) (k := k) h0 hlk.1).mpr h.1; omega))).symm | exact (rcL_no (fun h => h.2 c_33)).symm | exact (rcL_yes ⟨d_1, c_33⟩).symm)) (wvC (congrArg (fun z => aI cI (a 22) 8 (nF z)) (show rcW t le ln wd e lk k = rcW t le ln wd e lk (k + 1) from by first | exact (rcW_no (fun h => c_22 (by have h9 := (rcL_same (t := t) (le := le) (k := k) h0 hlk.1).mpr h.1; omega))).symm | exact (rcW_no (fun h => h.2 c_33)).symm | exact (rcW_yes ⟨d_1, c_33⟩).symm)) (wvC rfl (wvC rfl (wvC rfl rfl))))))
        exact ih_3 (k + 1) (by first | rfl | omega | (simp_all; done)) (by omega) H locs (hw_3 ▸ hP) (hw_3 ▸ hD) hS ls (lvcv (l := [(0, .ref (a 5)), (1, .ref (a 2)), (2, .int (nI e)), (3, .int (nI lk)), (4, .int (nI (k + 1)))]) (lv_sub hl [1, 2, 3, 4, 0] rfl) (lvC (lvC (lvC (lvC (lvC rfl))))))
      have d_1 : ln k = lk := (rcL_same (t := t) (le := le) (k := k) h0 hlk.1).mp (by omega)
      have d_2 : e ≠ k := by intro h; subst h; omega
      refine lv_aload_n hx hb dX0_reach_25 rfl (lv_at hl 1 rfl) ?_
      refine lv_iload_n hx hb dX0_reach_26 rfl (lv_at hl 2 rfl) ?_
      refine lv_iload hx hb dX0_reach_27 (lv_at hl 4 rfl) ?_
      refine cro_i (va_runV (As := [.int (nI e), .int (nI k)]) (rest := []) ⟨hx, hb, hml, hown, hts⟩ (c_X5_factorOf l G cI cJ (a := a) (ey := nI ey) (le := le) (t := t) (bd := bd) (bs := bs) (x := e) (y := k) (tb := by first | assumption | omega) (hT := by first | assumption | omega) (h_x := by first | assumption | omega) (h_y := by first | assumption | omega) (h_n := by first | assumption | omega) (hle := by first | assumption | omega)) (cwV 2 hts gX0_reach_X5_factorOf rfl rfl rfl (by decide +kernel) ⟨Nat.le_of_ble_eq_true rfl, Nat.le_of_ble_eq_true rfl⟩) (preV_ro (wc := [oTe a (nI ey) (nI le), aI cI (a 12) 64 bd, aI cI (a 13) 64 bs]) hK hP [3, 4, 5] rfl 5 3 rfl rfl rfl) rfl rfl hl.1 rfl (lv_room (Nat.le_of_ble_eq_true rfl)) dX0_reach_29 ⟨Nat.zero_le _, Nat.zero_le _⟩) ?_
      refine lv_iconst (v := (-1)) hx hb dX0_reach_32 (by decide) ?_
      refine no_icmp_eq (tgt := 79) hx hb dX0_reach_33 (by decide) (by first | omega | exact Nat.le_trans (rcL_le lb hlk.2) (by decide) | exact Nat.lt_of_le_of_lt (rcW_le wdb) (by decide) | exact Nat.le_trans (fc_le _ _ _ _) (by decide) | exact Nat.lt_of_le_of_lt (cB_le _ _ _ _) (by decide)) (fun c_33 => ?_) (fun c_33 => ?_)
      · refine lv_iinc (v := nI (k + 1)) (lv' := [(4, .int (nI (k + 1))), (0, .ref (a 5)), (1, .ref (a 2)), (2, .int (nI e)), (3, .int (nI lk))]) hx hb dX0_reach_79 hl (k := 4) rfl (nI_add k 1) (by decide) rfl (fun ls hl => ?_)
        refine lv_goto (tgt := 3) hx hb dX0_reach_82 (by decide) ?_
        have hw_3 : ([oCh a, aI cI (a 21) 8 (oF (rcL t le ln e lk k)), aI cI (a 22) 8 (nF (rcW t le ln wd e lk k)), oTe a (nI ey) (nI le), aI cI (a 12) 64 bd, aI cI (a 13) 64 bs] : va_W) = [oCh a, aI cI (a 21) 8 (oF (rcL t le ln e lk (k + 1))), aI cI (a 22) 8 (nF (rcW t le ln wd e lk (k + 1))), oTe a (nI ey) (nI le), aI cI (a 12) 64 bd, aI cI (a 13) 64 bs] := (wvC rfl (wvC (congrArg (fun z => aI cI (a 21) 8 (oF z)) (show rcL t le ln e lk k = rcL t le ln e lk (k + 1) from by first | exact (rcL_no (fun h => c_22 (by have h9 := (rcL_same (t := t) (le := le) (k := k) h0 hlk.1).mpr h.1; omega))).symm | exact (rcL_no (fun h => h.2 c_33)).symm | exact (rcL_yes ⟨d_1, c_33⟩).symm)) (wvC (congrArg (fun z => aI cI (a 22) 8 (nF z)) (show rcW t le ln wd e lk k = rcW t le ln wd e lk (k + 1) from by first | exact (rcW_no (fun h => c_22 (by have h9 := (rcL_same (t := t) (le := le) (k := k) h0 hlk.1).mpr h.1; omega))).symm | exact (rcW_no (fun h => h.2 c_33)).symm | exact (rcW_yes ⟨d_1, c_33⟩).symm)) (wvC rfl (wvC rfl (wvC rfl rfl))))))
        exact ih_3 (k + 1) (by first | rfl | omega | (simp_all; done)) (by omega) H locs (hw_3 ▸ hP) (hw_3 ▸ hD) hS ls (lvcv (l := [(0, .ref (a 5)), (1, .ref (a 2)), (2, .int (nI e)), (3, .int (nI lk)), (4, .int (nI (k + 1)))]) (lv_sub hl [1, 2, 3, 4, 0] rfl) (lvC (lvC (lvC (lvC (lvC rfl))))))
      refine lv_aload_n hx hb dX0_reach_36 rfl (lv_at hl 0 rfl) ?_
      refine va_get (D := G) (own := RX0) (ref := "SpotRows$Chains") (ci := 0) (v := .ref (a 21)) (C := RX0) (T := TX0) (N := 4) hx hb hts hinX0 hown hK.1 hP 0 rfl rfl 0 (by decide) fl9 (fun _ h9 => h9) rfl dX0_reach_37 ?_
      refine lv_iload_n hx hb dX0_reach_40 rfl (lv_at hl 2 rfl) ?_
      refine lv_iload_n hx hb dX0_reach_41 rfl (lv_at hl 3 rfl) ?_
      refine toi (nI_o lk) ?_
      refine st_oF hx hb hK hP hD hS 1 (k := e) rfl (by first | omega | exact Nat.le_trans (rcL_le lb hlk.2) (by decide) | exact Nat.lt_of_le_of_lt (rcW_le wdb) (by decide) | exact Nat.le_trans (fc_le _ _ _ _) (by decide) | exact Nat.lt_of_le_of_lt (cB_le _ _ _ _) (by decide)) (by decide) dX0_reach_42 (fun H locs hP hD hS => ?_)
      have hP : va_P G vwCl [oCh a, aI cI (a 21) 8 (oF (upN (rcL t le ln e lk k) e (lk + 1))), aI cI (a 22) 8 (nF (rcW t le ln wd e lk k)), oTe a (nI ey) (nI le), aI cI (a 12) 64 bd, aI cI (a 13) 64 bs] H := hP
      have hD : va_D A [oCh a, aI cI (a 21) 8 (oF (upN (rcL t le ln e lk k) e (lk + 1))), aI cI (a 22) 8 (nF (rcW t le ln wd e lk k)), oTe a (nI ey) (nI le), aI cI (a 12) 64 bd, aI cI (a 13) 64 bs] := hD
      refine lv_aload_n hx hb dX0_reach_43 rfl (lv_at hl 1 rfl) ?_
      refine lv_iload_n hx hb dX0_reach_44 rfl (lv_at hl 2 rfl) ?_
      refine lv_iload hx hb dX0_reach_45 (lv_at hl 4 rfl) ?_
      refine cro_i (va_runV (As := [.int (nI e), .int (nI k)]) (rest := []) ⟨hx, hb, hml, hown, hts⟩ (c_X5_countBoth l G cI cJ (a := a) (ey := nI ey) (le := nI le) (t := t) (bd := bd) (bs := bs) (x := e) (y := k) (tb := by first | assumption | omega) (hT := by first | assumption | omega) (h_x := by first | assumption | omega) (h_y := by first | assumption | omega) (h_n := by first | assumption | omega)) (cwV 2 hts gX0_reach_X5_countBoth rfl rfl rfl (by decide +kernel) ⟨Nat.le_of_ble_eq_true rfl, Nat.le_of_ble_eq_true rfl⟩) (preV_ro (wc := [oTe a (nI ey) (nI le), aI cI (a 12) 64 bd]) hK hP [3, 4] rfl 5 3 rfl rfl rfl) rfl rfl hl.1 rfl (lv_room (Nat.le_of_ble_eq_true rfl)) dX0_reach_47 ⟨Nat.zero_le _, Nat.zero_le _⟩) ?_
      refine lv_aload_n hx hb dX0_reach_50 rfl (lv_at hl 0 rfl) ?_
      refine va_get (D := G) (own := RX0) (ref := "SpotRows$Chains") (ci := 0) (v := .ref (a 22)) (C := RX0) (T := TX0) (N := 4) hx hb hts hinX0 hown hK.1 hP 0 rfl rfl 1 (by decide) fl15 (fun _ h9 => h9) rfl dX0_reach_51 ?_
      refine lv_iload hx hb dX0_reach_54 (lv_at hl 4 rfl) ?_
      refine ld_nF hx hb hK hP 2 (k := k) rfl (by first | omega | exact Nat.le_trans (rcL_le lb hlk.2) (by decide) | exact Nat.lt_of_le_of_lt (rcW_le wdb) (by decide) | exact Nat.le_trans (fc_le _ _ _ _) (by decide) | exact Nat.lt_of_le_of_lt (cB_le _ _ _ _) (by decide)) (by decide) dX0_reach_56 ?_
      refine toi (show (nI ((rcW t le ln wd e lk k) k)) = (nI (wd k)) from congrArg nI (rcW_ne (Ne.symm d_2))) ?_
      refine va_mmin hx hb (hml.trans hl.1.symm) (own := RX0) hown (hts (.methodLink RX0 51 Lib.Math.min.name) (by decide +kernel)) (hts (.static Lib.Math.min.name) (by decide +kernel)) (hts (.initialized "java/lang/Math") (by decide +kernel)) (hts (.code Lib.Math.min.name Lib.Math.min.code 2 (some .int)) (by decide +kernel)) (Nat.le_of_ble_eq_true rfl) (Nat.le_of_ble_eq_true rfl) (Nat.zero_le _) (Nat.zero_le _) dX0_reach_57 ?_
      refine toi (minI (by first | omega | exact Nat.le_trans (rcL_le lb hlk.2) (by decide) | exact Nat.lt_of_le_of_lt (rcW_le wdb) (by decide) | exact Nat.le_trans (fc_le _ _ _ _) (by decide) | exact Nat.lt_of_le_of_lt (cB_le _ _ _ _) (by decide)) (by first | omega | exact Nat.le_trans (rcL_le lb hlk.2) (by decide) | exact Nat.lt_of_le_of_lt (rcW_le wdb) (by decide) | exact Nat.le_trans (fc_le _ _ _ _) (by decide) | exact Nat.lt_of_le_of_lt (cB_le _ _ _ _) (by decide))) ?_
      refine lv_istore (lv' := [(5, .int (nI (min (cB t e k 240) (wd k)))), (0, .ref (a 5)), (1, .ref (a 2)), (2, .int (nI e)), (3, .int (nI lk)), (4, .int (nI k))]) hx hb dX0_reach_60 hl (by decide) rfl (fun ls hl => ?_)
      refine lv_aload_n hx hb dX0_reach_62 rfl (lv_at hl 1 rfl) ?_
      refine va_get (D := G) (own := RX0) (ref := "SpotRows$Chains") (ci := 0) (v := .ref (a 22)) (C := RX0) (T := TX0) (N := 4) hx hb hts hinX0 hown hK.1 hP 0 rfl rfl 1 (by decide) fl15 (fun _ h9 => h9) rfl dX0_reach_63 ?_
      refine lv_iload_n hx hb dX0_reach_66 rfl (lv_at hl 3 rfl) ?_
      refine lv_aload_n hx hb dX0_reach_67 rfl (lv_at hl 1 rfl) ?_
      refine va_get (D := G) (own := RX0) (ref := "SpotRows$Chains") (ci := 0) (v := .ref (a 22)) (C := RX0) (T := TX0) (N := 4) hx hb hts hinX0 hown hK.1 hP 0 rfl rfl 1 (by decide) fl15 (fun _ h9 => h9) rfl dX0_reach_68 ?_
      refine lv_iload_n hx hb dX0_reach_71 rfl (lv_at hl 3 rfl) ?_
      refine ld_nF hx hb hK hP 2 (k := e) rfl (by first | omega | exact Nat.le_trans (rcL_le lb hlk.2) (by decide) | exact Nat.lt_of_le_of_lt (rcW_le wdb) (by decide) | exact Nat.le_trans (fc_le _ _ _ _) (by decide) | exact Nat.lt_of_le_of_lt (cB_le _ _ _ _) (by decide)) (by decide) dX0_reach_72 ?_
      refine toi (show (nI ((rcW t le ln wd e lk k) e)) = (nI (mxw t le ln wd e lk k)) from congrArg nI rcW_e) ?_
      refine lv_iload hx hb dX0_reach_73 (lv_at hl 0 rfl) ?_
      refine va_mmax hx hb (hml.trans hl.1.symm) (own := RX0) hown (hts (.methodLink RX0 56 Lib.Math.max.name) (by decide +kernel)) (hts (.static Lib.Math.max.name) (by decide +kernel)) (hts (.initialized "java/lang/Math") (by decide +kernel)) (hts (.code Lib.Math.max.name Lib.Math.max.code 2 (some .int)) (by decide +kernel)) (Nat.le_of_ble_eq_true rfl) (Nat.le_of_ble_eq_true rfl) (Nat.zero_le _) (Nat.zero_le _) dX0_reach_75 ?_
      refine toi (maxI (by first | omega | exact Nat.le_trans (rcL_le lb hlk.2) (by decide) | exact Nat.lt_of_le_of_lt (rcW_le wdb) (by decide) | exact Nat.le_trans (fc_le _ _ _ _) (by decide) | exact Nat.lt_of_le_of_lt (cB_le _ _ _ _) (by decide)) (by first | omega | exact Nat.le_trans (rcL_le lb hlk.2) (by decide) | exact Nat.lt_of_le_of_lt (rcW_le wdb) (by decide) | exact Nat.le_trans (fc_le _ _ _ _) (by decide) | exact Nat.lt_of_le_of_lt (cB_le _ _ _ _) (by decide))) ?_
      refine st_nF hx hb hK hP hD hS 2 (k := e) rfl (by first | omega | exact Nat.le_trans (rcL_le lb hlk.2) (by decide) | exact Nat.lt_of_le_of_lt (rcW_le wdb) (by decide) | exact Nat.le_trans (fc_le _ _ _ _) (by decide) | exact Nat.lt_of_le_of_lt (cB_le _ _ _ _) (by decide)) (by decide) dX0_reach_78 (fun H locs hP hD hS => ?_)
      have hP : va_P G vwCl [oCh a, aI cI (a 21) 8 (oF (upN (rcL t le ln e lk k) e (lk + 1))), aI cI (a 22) 8 (nF (upN (rcW t le ln wd e lk k) e (max (mxw t le ln wd e lk k) (min (cB t e k 240) (wd k))))), oTe a (nI ey) (nI le), aI cI (a 12) 64 bd, aI cI (a 13) 64 bs] H := hP
      have hD : va_D A [oCh a, aI cI (a 21) 8 (oF (upN (rcL t le ln e lk k) e (lk + 1))), aI cI (a 22) 8 (nF (upN (rcW t le ln wd e lk k) e (max (mxw t le ln wd e lk k) (min (cB t e k 240) (wd k))))), oTe a (nI ey) (nI le), aI cI (a 12) 64 bd, aI cI (a 13) 64 bs] := hD
      refine lv_iinc (v := nI (k + 1)) (lv' := [(4, .int (nI (k + 1))), (5, .int (nI (min (cB t e k 240) (wd k)))), (0, .ref (a 5)), (1, .ref (a 2)), (2, .int (nI e)), (3, .int (nI lk))]) hx hb dX0_reach_79 hl (k := 5) rfl (nI_add k 1) (by decide) rfl (fun ls hl => ?_)
      refine lv_goto (tgt := 3) hx hb dX0_reach_82 (by decide) ?_
      have hw_3 : ([oCh a, aI cI (a 21) 8 (oF (upN (rcL t le ln e lk k) e (lk + 1))), aI cI (a 22) 8 (nF (upN (rcW t le ln wd e lk k) e (max (mxw t le ln wd e lk k) (min (cB t e k 240) (wd k))))), oTe a (nI ey) (nI le), aI cI (a 12) 64 bd, aI cI (a 13) 64 bs] : va_W) = [oCh a, aI cI (a 21) 8 (oF (rcL t le ln e lk (k + 1))), aI cI (a 22) 8 (nF (rcW t le ln wd e lk (k + 1))), oTe a (nI ey) (nI le), aI cI (a 12) 64 bd, aI cI (a 13) 64 bs] := (wvC rfl (wvC (congrArg (fun z => aI cI (a 21) 8 (oF z)) (show upN (rcL t le ln e lk k) e (lk + 1) = rcL t le ln e lk (k + 1) from by first | exact (rcL_no (fun h => c_22 (by have h9 := (rcL_same (t := t) (le := le) (k := k) h0 hlk.1).mpr h.1; omega))).symm | exact (rcL_no (fun h => h.2 c_33)).symm | exact (rcL_yes ⟨d_1, c_33⟩).symm)) (wvC (congrArg (fun z => aI cI (a 22) 8 (nF z)) (show upN (rcW t le ln wd e lk k) e (max (mxw t le ln wd e lk k) (min (cB t e k 240) (wd k))) = rcW t le ln wd e lk (k + 1) from by first | exact (rcW_no (fun h => c_22 (by have h9 := (rcL_same (t := t) (le := le) (k := k) h0 hlk.1).mpr h.1; omega))).symm | exact (rcW_no (fun h => h.2 c_33)).symm | exact (rcW_yes ⟨d_1, c_33⟩).symm)) (wvC rfl (wvC rfl (wvC rfl rfl))))))
      exact ih_3 (k + 1) (by first | rfl | omega | (simp_all; done)) (by omega) H locs (hw_3 ▸ hP) (hw_3 ▸ hD) hS ls (lvcv (l := [(0, .ref (a 5)), (1, .ref (a 2)), (2, .int (nI e)), (3, .int (nI lk)), (4, .int (nI (k + 1)))]) (lv_sub hl [2, 3, 4, 5, 0] rfl) (lvC (lvC (lvC (lvC (lvC rfl))))))
  have hw_3 : ([oCh a, aI cI (a 21) 8 (oF ln), aI cI (a 22) 8 (nF wd), oTe a (nI ey) (nI le), aI cI (a 12) 64 bd, aI cI (a 13) 64 bs] : va_W) = [oCh a, aI cI (a 21) 8 (oF (rcL t le ln e lk 0)), aI cI (a 22) 8 (nF (rcW t le ln wd e lk 0)), oTe a (nI ey) (nI le), aI cI (a 12) 64 bd, aI cI (a 13) 64 bs] := (wvC rfl (wvC (congrArg (fun z => aI cI (a 21) 8 (oF z)) (show ln = rcL t le ln e lk 0 from by rfl)) (wvC (congrArg (fun z => aI cI (a 22) 8 (nF z)) (show wd = rcW t le ln wd e lk 0 from by exact (upN_same hw0).symm)) (wvC rfl (wvC rfl (wvC rfl rfl))))))
  exact lp_3 (ey - 0 + 1) 0 (by first | rfl | omega | (simp_all; done)) (by omega) _ _ (hw_3 ▸ hP) (hw_3 ▸ hD) hS ls (lvcv (l := [(0, .ref (a 5)), (1, .ref (a 2)), (2, .int (nI e)), (3, .int (nI lk)), (4, .int (nI 0))]) (lv_sub hl [1, 2, 3, 4, 0] rfl) (lvC (lvC (lvC (lvC (lvC rfl))))))

set_option maxHeartbeats 400000 in
set_option maxRecDepth 100000 in
theorem c_X0_firstNext (l : Launch) (G : va_G) (cI cJ : ClassId) (a : Nat → Nat) (ey : Nat) (le : Nat) (t : Nat → Nat) (bd : Nat → Int32) (bs : Nat → Int32) (ln : Nat → Nat) (wd : Nat → Nat) (e : Nat) (w : Nat) (tb : TB t) (hT : TT t bd bs) (hey : ey ≤ 8) (hle : le ≤ 100) (lb : ∀ i, ln i ≤ 8) (wdb : ∀ i, wd i ≤ 240) (he : e < 8) (h2 : 2 ≤ ln e) (hw : w ≤ 240) : Met l yX0_firstNext wsX0_firstNext ({ frames := 1, cells := 0, slots := 0, locals := 25 }) (roP G cI cJ [.ref (a 5), .ref (a 2), .int (nI e), .int (nI w)] [oCh a, aI cI (a 21) 8 (oF ln), aI cI (a 22) 8 (nF wd), oTe a (nI ey) (nI le), aI cI (a 12) 64 bd, aI cI (a 13) 64 bs]) (vp_Si (fun r => r = nI (fnx t le ey ln wd e w))) 0 0 (fun _ => False) := by
  refine Met.ofW (cc := cX0_firstNext) (maxL := 5) (ret := (some .int)) (by decide) rfl ?_
  intro pg ev s mt args below meth cd s₁ B hml hv
  obtain ⟨rfl, hP, hK⟩ := hv
  have hx := B.exec
  have hb := B.bytes
  have hr := B.returns
  have hts := atoms_spec (ws := wsX0_firstNext) B.pre
  have hown : s.vm.findClass RX0 = some mt.cls := findClass_of_methodNamed B.named
  have hlocks := B.notSynchronized
  have hP : va_P G vwCl [oCh a, aI cI (a 21) 8 (oF ln), aI cI (a 22) 8 (nF wd), oTe a (nI ey) (nI le), aI cI (a 12) 64 bd, aI cI (a 13) 64 bs] s.heap := hP
  have hinX5 := (show ∀ w ∈ u_ws RX5 TX5 5, w ∈ wsX0_firstNext by decide +kernel)
  have fn30 := va_Nw.use (A := ([.ref (a 5), .ref (a 2), .int (nI e), .int (nI w)] : List Value).toArray) rfl (hK.2.1 (.fieldLinkNest "SpotRows$Chains" 30 "SpotRows$Tellings" "eyes" "I" "SpotRows") (by decide +kernel))
  have hinX0 := (show ∀ w ∈ u_ws RX0 TX0 4, w ∈ wsX0_firstNext by decide +kernel)
  have fl9 := hts (.fieldLink RX0 9 "SpotRows$Chains" "links" "[I") (by decide +kernel)
  have fl15 := hts (.fieldLink RX0 15 "SpotRows$Chains" "widths" "[I") (by decide +kernel)
  have hl := lv_entry ([.ref (a 5), .ref (a 2), .int (nI e), .int (nI w)]) (n := 5) (Nat.le_of_ble_eq_true rfl)
  rw [lg_entry_eq]
  generalize (lg_sl ([.ref (a 5), .ref (a 2), .int (nI e), .int (nI w)]) ++ List.replicate (5 - (lg_sl ([.ref (a 5), .ref (a 2), .int (nI e), .int (nI w)])).length) Slot.unset).toArray = ls at hl ⊢
  have hl : lv_has ls 5 [(0, .ref (a 5)), (1, .ref (a 2)), (2, .int (nI e)), (3, .int (nI w))] := hl
  have f0 := lb e
  refine lv_iconst (v := nI 0) hx hb dX0_firstNext_0 (by decide) ?_
  refine lv_istore (lv' := [(4, .int (nI 0)), (0, .ref (a 5)), (1, .ref (a 2)), (2, .int (nI e)), (3, .int (nI w))]) hx hb dX0_firstNext_1 hl (by decide) rfl (fun ls hl => ?_)
  have lp_3 : ∀ (nf : Nat) (k : Nat), (k ≤ ey) → (fnx t le ey ln wd e w = fnS t le ln wd e w (ey - k) k) → ey - k < nf → ∀ (ls : Array Slot), lv_has ls 5 [(0, .ref (a 5)), (1, .ref (a 2)), (2, .int (nI e)), (3, .int (nI w)), (4, .int (nI k))] → W pg l ev (headSpec wsX0_firstNext ({ frames := 1, cells := 0, slots := 0, locals := 25 })).room s mt ([.ref (a 5), .ref (a 2), .int (nI e), .int (nI w)] : List Value).toArray below meth cd s.heap [] 0 0 (MQ below (vp_Si (fun r => r = nI (fnx t le ey ln wd e w))) ([.ref (a 5), .ref (a 2), .int (nI e), .int (nI w)] : List Value).toArray s 0 0 (fun _ => False)) (F0 mt 3 ls []) := by
    intro nf
    induction nf with
    | zero => intro k hk hq hfu; exact absurd hfu (Nat.not_lt_zero _)
    | succ nf ih_3 =>
      intro k hk hq hfu ls hl
      have f1 := lb k
      have f2 := wdb k
      have f3 := cB_le t e k 240
      refine lv_iload hx hb dX0_firstNext_3 (lv_at hl 4 rfl) ?_
      refine lv_aload_n hx hb dX0_firstNext_5 rfl (lv_at hl 1 rfl) ?_
      refine va_getN (D := G) (own := RX0) (host := "SpotRows") (ref := "SpotRows$Tellings") (ci := 5) (v := .int (nI ey)) (C := RX5) (T := TX5) (N := 5) hx hb hts hinX5 hown hK.1 hP 3 rfl rfl 3 (by decide) fn30 (fun _ h9 => h9) rfl dX0_firstNext_6 ?_
      refine nv_icmp_ge (tgt := 72) hx hb dX0_firstNext_9 (by decide) (by first | omega | exact Nat.le_trans (lb _) (by decide) | exact Nat.lt_of_le_of_lt (wdb _) (by decide) | exact Nat.le_trans (fc_le _ _ _ _) (by decide) | exact Nat.lt_of_le_of_lt (cB_le _ _ _ _) (by decide)) (by first | omega | exact Nat.le_trans (lb _) (by decide) | exact Nat.lt_of_le_of_lt (wdb _) (by decide) | exact Nat.le_trans (fc_le _ _ _ _) (by decide) | exact Nat.lt_of_le_of_lt (cB_le _ _ _ _) (by decide)) (fun c_9 => ?_) (fun c_9 => ?_)
      · refine lv_iconst (v := nI 0) hx hb dX0_firstNext_72 (by decide) ?_
        exact W.iret (v := nI 0) hx hb hr (fun zt ht zw => ⟨_, rfl, (congrArg nI (show 0 = (fnx t le ey ln wd e w) from by rw [hq, show ey - k = 0 from by omega]; rfl)), ht⟩) (fun q hq => absurd hq List.not_mem_nil) dX0_firstNext_73
      refine lv_aload_n hx hb dX0_firstNext_12 rfl (lv_at hl 0 rfl) ?_
      refine va_get (D := G) (own := RX0) (ref := "SpotRows$Chains") (ci := 0) (v := .ref (a 21)) (C := RX0) (T := TX0) (N := 4) hx hb hts hinX0 hown hK.1 hP 0 rfl rfl 0 (by decide) fl9 (fun _ h9 => h9) rfl dX0_firstNext_13 ?_
      refine lv_iload hx hb dX0_firstNext_16 (lv_at hl 4 rfl) ?_
      refine ld_oF hx hb hK hP 1 (k := k) rfl (by first | omega | exact Nat.le_trans (lb _) (by decide) | exact Nat.lt_of_le_of_lt (wdb _) (by decide) | exact Nat.le_trans (fc_le _ _ _ _) (by decide) | exact Nat.lt_of_le_of_lt (cB_le _ _ _ _) (by decide)) (by decide) dX0_firstNext_18 ?_
      refine lv_aload_n hx hb dX0_firstNext_19 rfl (lv_at hl 0 rfl) ?_
      refine va_get (D := G) (own := RX0) (ref := "SpotRows$Chains") (ci := 0) (v := .ref (a 21)) (C := RX0) (T := TX0) (N := 4) hx hb hts hinX0 hown hK.1 hP 0 rfl rfl 0 (by decide) fl9 (fun _ h9 => h9) rfl dX0_firstNext_20 ?_
      refine lv_iload_n hx hb dX0_firstNext_23 rfl (lv_at hl 2 rfl) ?_
      refine ld_oF hx hb hK hP 1 (k := e) rfl (by first | omega | exact Nat.le_trans (lb _) (by decide) | exact Nat.lt_of_le_of_lt (wdb _) (by decide) | exact Nat.le_trans (fc_le _ _ _ _) (by decide) | exact Nat.lt_of_le_of_lt (cB_le _ _ _ _) (by decide)) (by decide) dX0_firstNext_24 ?_
      refine toi (oI_pos (by first | assumption | omega)) ?_
      refine lv_iconst (v := nI 1) hx hb dX0_firstNext_25 (by decide) ?_
      refine lv_isub hx hb dX0_firstNext_26 ?_
      refine toi (pk_sub (a := (ln e - 1)) (b := 1) (by first | omega | exact Nat.le_trans (lb _) (by decide) | exact Nat.lt_of_le_of_lt (wdb _) (by decide) | exact Nat.le_trans (fc_le _ _ _ _) (by decide) | exact Nat.lt_of_le_of_lt (cB_le _ _ _ _) (by decide))) ?_
      refine non_icmp_ne (tgt := 66) hx hb dX0_firstNext_27 (by decide) (by first | omega | exact Nat.le_trans (lb _) (by decide) | exact Nat.lt_of_le_of_lt (wdb _) (by decide) | exact Nat.le_trans (fc_le _ _ _ _) (by decide) | exact Nat.lt_of_le_of_lt (cB_le _ _ _ _) (by decide)) (by first | omega | exact Nat.le_trans (lb _) (by decide) | exact Nat.lt_of_le_of_lt (wdb _) (by decide) | exact Nat.le_trans (fc_le _ _ _ _) (by decide) | exact Nat.lt_of_le_of_lt (cB_le _ _ _ _) (by decide)) (fun c_27 => ?_) (fun c_27 => ?_)
      · refine lv_iinc (v := nI (k + 1)) (lv' := [(4, .int (nI (k + 1))), (0, .ref (a 5)), (1, .ref (a 2)), (2, .int (nI e)), (3, .int (nI w))]) hx hb dX0_firstNext_66 hl (k := 4) rfl (nI_add k 1) (by decide) rfl (fun ls hl => ?_)
        refine lv_goto (tgt := 3) hx hb dX0_firstNext_69 (by decide) ?_
        exact ih_3 (k + 1) (by first | rfl | omega | (simp_all; done)) (by rw [hq, show ey - k = ey - (k + 1) + 1 from by omega, fnS, if_neg (by rintro ⟨z1, z2, z3, z4⟩; omega)]) (by omega) ls (lvcv (l := [(0, .ref (a 5)), (1, .ref (a 2)), (2, .int (nI e)), (3, .int (nI w)), (4, .int (nI (k + 1)))]) (lv_sub hl [1, 2, 3, 4, 0] rfl) (lvC (lvC (lvC (lvC (lvC rfl))))))
      have d_2 : e ≠ k := by intro h; subst h; omega
      refine lv_aload_n hx hb dX0_firstNext_30 rfl (lv_at hl 0 rfl) ?_
      refine va_get (D := G) (own := RX0) (ref := "SpotRows$Chains") (ci := 0) (v := .ref (a 22)) (C := RX0) (T := TX0) (N := 4) hx hb hts hinX0 hown hK.1 hP 0 rfl rfl 1 (by decide) fl15 (fun _ h9 => h9) rfl dX0_firstNext_31 ?_
      refine lv_iload hx hb dX0_firstNext_34 (lv_at hl 4 rfl) ?_
      refine ld_nF hx hb hK hP 2 (k := k) rfl (by first | omega | exact Nat.le_trans (lb _) (by decide) | exact Nat.lt_of_le_of_lt (wdb _) (by decide) | exact Nat.le_trans (fc_le _ _ _ _) (by decide) | exact Nat.lt_of_le_of_lt (cB_le _ _ _ _) (by decide)) (by decide) dX0_firstNext_36 ?_
      refine lv_iload_n hx hb dX0_firstNext_37 rfl (lv_at hl 3 rfl) ?_
      refine nv_icmp_lt (tgt := 66) hx hb dX0_firstNext_38 (by decide) (by first | omega | exact Nat.le_trans (lb _) (by decide) | exact Nat.lt_of_le_of_lt (wdb _) (by decide) | exact Nat.le_trans (fc_le _ _ _ _) (by decide) | exact Nat.lt_of_le_of_lt (cB_le _ _ _ _) (by decide)) (by first | omega | exact Nat.le_trans (lb _) (by decide) | exact Nat.lt_of_le_of_lt (wdb _) (by decide) | exact Nat.le_trans (fc_le _ _ _ _) (by decide) | exact Nat.lt_of_le_of_lt (cB_le _ _ _ _) (by decide)) (fun c_38 => ?_) (fun c_38 => ?_)
      · refine lv_iinc (v := nI (k + 1)) (lv' := [(4, .int (nI (k + 1))), (0, .ref (a 5)), (1, .ref (a 2)), (2, .int (nI e)), (3, .int (nI w))]) hx hb dX0_firstNext_66 hl (k := 4) rfl (nI_add k 1) (by decide) rfl (fun ls hl => ?_)
        refine lv_goto (tgt := 3) hx hb dX0_firstNext_69 (by decide) ?_
        exact ih_3 (k + 1) (by first | rfl | omega | (simp_all; done)) (by rw [hq, show ey - k = ey - (k + 1) + 1 from by omega, fnS, if_neg (by rintro ⟨z1, z2, z3, z4⟩; omega)]) (by omega) ls (lvcv (l := [(0, .ref (a 5)), (1, .ref (a 2)), (2, .int (nI e)), (3, .int (nI w)), (4, .int (nI (k + 1)))]) (lv_sub hl [1, 2, 3, 4, 0] rfl) (lvC (lvC (lvC (lvC (lvC rfl))))))
      refine lv_aload_n hx hb dX0_firstNext_41 rfl (lv_at hl 1 rfl) ?_
      refine lv_iload_n hx hb dX0_firstNext_42 rfl (lv_at hl 2 rfl) ?_
      refine lv_iload hx hb dX0_firstNext_43 (lv_at hl 4 rfl) ?_
      refine cro_i (va_runV (As := [.int (nI e), .int (nI k)]) (rest := []) ⟨hx, hb, hml, hown, hts⟩ (c_X5_countBoth l G cI cJ (a := a) (ey := nI ey) (le := nI le) (t := t) (bd := bd) (bs := bs) (x := e) (y := k) (tb := by first | assumption | omega) (hT := by first | assumption | omega) (h_x := by first | assumption | omega) (h_y := by first | assumption | omega) (h_n := by first | assumption | omega)) (cwV 2 hts gX0_firstNext_X5_countBoth rfl rfl rfl (by decide +kernel) ⟨Nat.le_of_ble_eq_true rfl, Nat.le_of_ble_eq_true rfl⟩) (preV_ro (wc := [oTe a (nI ey) (nI le), aI cI (a 12) 64 bd]) hK hP [3, 4] rfl 5 3 rfl rfl rfl) rfl rfl hl.1 rfl (lv_room (Nat.le_of_ble_eq_true rfl)) dX0_firstNext_45 ⟨Nat.zero_le _, Nat.zero_le _⟩) ?_
      refine lv_iload_n hx hb dX0_firstNext_48 rfl (lv_at hl 3 rfl) ?_
      refine nv_icmp_lt (tgt := 66) hx hb dX0_firstNext_49 (by decide) (by first | omega | exact Nat.le_trans (lb _) (by decide) | exact Nat.lt_of_le_of_lt (wdb _) (by decide) | exact Nat.le_trans (fc_le _ _ _ _) (by decide) | exact Nat.lt_of_le_of_lt (cB_le _ _ _ _) (by decide)) (by first | omega | exact Nat.le_trans (lb _) (by decide) | exact Nat.lt_of_le_of_lt (wdb _) (by decide) | exact Nat.le_trans (fc_le _ _ _ _) (by decide) | exact Nat.lt_of_le_of_lt (cB_le _ _ _ _) (by decide)) (fun c_49 => ?_) (fun c_49 => ?_)
      · refine lv_iinc (v := nI (k + 1)) (lv' := [(4, .int (nI (k + 1))), (0, .ref (a 5)), (1, .ref (a 2)), (2, .int (nI e)), (3, .int (nI w))]) hx hb dX0_firstNext_66 hl (k := 4) rfl (nI_add k 1) (by decide) rfl (fun ls hl => ?_)
        refine lv_goto (tgt := 3) hx hb dX0_firstNext_69 (by decide) ?_
        exact ih_3 (k + 1) (by first | rfl | omega | (simp_all; done)) (by rw [hq, show ey - k = ey - (k + 1) + 1 from by omega, fnS, if_neg (by rintro ⟨z1, z2, z3, z4⟩; omega)]) (by omega) ls (lvcv (l := [(0, .ref (a 5)), (1, .ref (a 2)), (2, .int (nI e)), (3, .int (nI w)), (4, .int (nI (k + 1)))]) (lv_sub hl [1, 2, 3, 4, 0] rfl) (lvC (lvC (lvC (lvC (lvC rfl))))))
      refine lv_aload_n hx hb dX0_firstNext_52 rfl (lv_at hl 1 rfl) ?_
      refine lv_iload_n hx hb dX0_firstNext_53 rfl (lv_at hl 2 rfl) ?_
      refine lv_iload hx hb dX0_firstNext_54 (lv_at hl 4 rfl) ?_
      refine cro_i (va_runV (As := [.int (nI e), .int (nI k)]) (rest := []) ⟨hx, hb, hml, hown, hts⟩ (c_X5_factorOf l G cI cJ (a := a) (ey := nI ey) (le := le) (t := t) (bd := bd) (bs := bs) (x := e) (y := k) (tb := by first | assumption | omega) (hT := by first | assumption | omega) (h_x := by first | assumption | omega) (h_y := by first | assumption | omega) (h_n := by first | assumption | omega) (hle := by first | assumption | omega)) (cwV 2 hts gX0_firstNext_X5_factorOf rfl rfl rfl (by decide +kernel) ⟨Nat.le_of_ble_eq_true rfl, Nat.le_of_ble_eq_true rfl⟩) (preV_ro (wc := [oTe a (nI ey) (nI le), aI cI (a 12) 64 bd, aI cI (a 13) 64 bs]) hK hP [3, 4, 5] rfl 5 3 rfl rfl rfl) rfl rfl hl.1 rfl (lv_room (Nat.le_of_ble_eq_true rfl)) dX0_firstNext_56 ⟨Nat.zero_le _, Nat.zero_le _⟩) ?_
      refine lv_iconst (v := (-1)) hx hb dX0_firstNext_59 (by decide) ?_
      refine no_icmp_eq (tgt := 66) hx hb dX0_firstNext_60 (by decide) (by first | omega | exact Nat.le_trans (lb _) (by decide) | exact Nat.lt_of_le_of_lt (wdb _) (by decide) | exact Nat.le_trans (fc_le _ _ _ _) (by decide) | exact Nat.lt_of_le_of_lt (cB_le _ _ _ _) (by decide)) (fun c_60 => ?_) (fun c_60 => ?_)
      · refine lv_iinc (v := nI (k + 1)) (lv' := [(4, .int (nI (k + 1))), (0, .ref (a 5)), (1, .ref (a 2)), (2, .int (nI e)), (3, .int (nI w))]) hx hb dX0_firstNext_66 hl (k := 4) rfl (nI_add k 1) (by decide) rfl (fun ls hl => ?_)
        refine lv_goto (tgt := 3) hx hb dX0_firstNext_69 (by decide) ?_
        exact ih_3 (k + 1) (by first | rfl | omega | (simp_all; done)) (by rw [hq, show ey - k = ey - (k + 1) + 1 from by omega, fnS, if_neg (by rintro ⟨z1, z2, z3, z4⟩; omega)]) (by omega) ls (lvcv (l := [(0, .ref (a 5)), (1, .ref (a 2)), (2, .int (nI e)), (3, .int (nI w)), (4, .int (nI (k + 1)))]) (lv_sub hl [1, 2, 3, 4, 0] rfl) (lvC (lvC (lvC (lvC (lvC rfl))))))
      refine lv_iload hx hb dX0_firstNext_63 (lv_at hl 4 rfl) ?_
      exact W.iret (v := nI k) hx hb hr (fun zt ht zw => ⟨_, rfl, (congrArg nI (show k = (fnx t le ey ln wd e w) from by rw [hq, show ey - k = ey - (k + 1) + 1 from by omega, fnS, if_pos ⟨by omega, by omega, by omega, c_60⟩])), ht⟩) (fun q hq => absurd hq List.not_mem_nil) dX0_firstNext_65
  exact lp_3 (ey - 0 + 1) 0 (by first | rfl | omega | (simp_all; done)) (by rfl) (by omega) ls (lvcv (l := [(0, .ref (a 5)), (1, .ref (a 2)), (2, .int (nI e)), (3, .int (nI w)), (4, .int (nI 0))]) (lv_sub hl [1, 2, 3, 4, 0] rfl) (lvC (lvC (lvC (lvC (lvC rfl))))))

set_option maxHeartbeats 400000 in
set_option maxRecDepth 100000 in
theorem c_X0_walk (l : Launch) (G : va_G) (cI cJ : ClassId) (a : Nat → Nat) (ey : Nat) (le : Nat) (t : Nat → Nat) (bd : Nat → Int32) (bs : Nat → Int32) (ln : Nat → Nat) (wd : Nat → Nat) (wy : Nat → Nat) (e : Nat) (tb : TB t) (hT : TT t bd bs) (hey : ey ≤ 8) (hle : le ≤ 100) (hch : CH t le ey ln wd) (he : ln e ≠ 0) : Met l yX0_walk wsX0_walk ({ frames := 2, cells := 0, slots := 0, locals := 49 }) (rwP G cI cJ [.ref (a 5), .ref (a 2), .int (nI e)] [oCh a, aI cI (a 21) 8 (oF ln), aI cI (a 22) 8 (nF wd), aI cI (a 24) 8 (nF wy), oTe a (nI ey) (nI le), aI cI (a 12) 64 bd, aI cI (a 13) 64 bs]) (rwQv G [oCh a, aI cI (a 21) 8 (oF ln), aI cI (a 22) 8 (nF wd), aI cI (a 24) 8 (nF wy), oTe a (nI ey) (nI le), aI cI (a 12) 64 bd, aI cI (a 13) 64 bs] (fun (_ : Unit) => True) (fun (_ : Unit) => [oCh a, aI cI (a 21) 8 (oF ln), aI cI (a 22) 8 (nF wd), aI cI (a 24) 8 (nF (pfx (wyF t le ey ln wd e) wy (ln e))), oTe a (nI ey) (nI le), aI cI (a 12) 64 bd, aI cI (a 13) 64 bs])) 0 0 (ads [oCh a, aI cI (a 21) 8 (oF ln), aI cI (a 22) 8 (nF wd), aI cI (a 24) 8 (nF wy), oTe a (nI ey) (nI le), aI cI (a 12) 64 bd, aI cI (a 13) 64 bs]) := by
  refine Met.ofW (cc := cX0_walk) (maxL := 4) (ret := none) (by decide) rfl ?_
  intro pg ev s mt args below meth cd s₁ B hml hv
  obtain ⟨rfl, hP, hD0, hK⟩ := hv
  have hx := B.exec
  have hb := B.bytes
  have hr := B.returns
  have hts := atoms_spec (ws := wsX0_walk) B.pre
  have hown : s.vm.findClass RX0 = some mt.cls := findClass_of_methodNamed B.named
  have hlocks := B.notSynchronized
  have hD := ads_self hD0
  generalize hAe : ads [oCh a, aI cI (a 21) 8 (oF ln), aI cI (a 22) 8 (nF wd), aI cI (a 24) 8 (nF wy), oTe a (nI ey) (nI le), aI cI (a 12) 64 bd, aI cI (a 13) 64 bs] = A at hD ⊢
  have hS : va_S A s.heap s.heap [] := va_S.rf
  have hP : va_P G vwCl [oCh a, aI cI (a 21) 8 (oF ln), aI cI (a 22) 8 (nF wd), aI cI (a 24) 8 (nF wy), oTe a (nI ey) (nI le), aI cI (a 12) 64 bd, aI cI (a 13) 64 bs] s.heap := hP
  have hinX0 := (show ∀ w ∈ u_ws RX0 TX0 4, w ∈ wsX0_walk by decide +kernel)
  have fl21 := hts (.fieldLink RX0 21 "SpotRows$Chains" "way" "[I") (by decide +kernel)
  have fl9 := hts (.fieldLink RX0 9 "SpotRows$Chains" "links" "[I") (by decide +kernel)
  have fl15 := hts (.fieldLink RX0 15 "SpotRows$Chains" "widths" "[I") (by decide +kernel)
  have hl := lv_entry ([.ref (a 5), .ref (a 2), .int (nI e)]) (n := 4) (Nat.le_of_ble_eq_true rfl)
  rw [lg_entry_eq]
  generalize (lg_sl ([.ref (a 5), .ref (a 2), .int (nI e)]) ++ List.replicate (4 - (lg_sl ([.ref (a 5), .ref (a 2), .int (nI e)])).length) Slot.unset).toArray = ls at hl ⊢
  have hl : lv_has ls 4 [(0, .ref (a 5)), (1, .ref (a 2)), (2, .int (nI e))] := hl
  have he8 := hch.2.1 e he
  have f0 := hch.2.2.1 e
  refine lv_aload_n hx hb dX0_walk_0 rfl (lv_at hl 0 rfl) ?_
  refine va_get (D := G) (own := RX0) (ref := "SpotRows$Chains") (ci := 0) (v := .ref (a 24)) (C := RX0) (T := TX0) (N := 4) hx hb hts hinX0 hown hK.1 hP 0 rfl rfl 3 (by decide) fl21 (fun _ h9 => h9) rfl dX0_walk_1 ?_
  refine lv_iconst (v := nI 0) hx hb dX0_walk_4 (by decide) ?_
  refine lv_iload_n hx hb dX0_walk_5 rfl (lv_at hl 2 rfl) ?_
  refine st_nF hx hb hK hP hD hS 3 (k := 0) rfl (by first | omega | exact Nat.lt_of_le_of_lt (hch.2.2.2.1 _) (by decide)) (by decide) dX0_walk_6 (fun H locs hP hD hS => ?_)
  have hP : va_P G vwCl [oCh a, aI cI (a 21) 8 (oF ln), aI cI (a 22) 8 (nF wd), aI cI (a 24) 8 (nF (upN wy 0 e)), oTe a (nI ey) (nI le), aI cI (a 12) 64 bd, aI cI (a 13) 64 bs] H := hP
  have hD : va_D A [oCh a, aI cI (a 21) 8 (oF ln), aI cI (a 22) 8 (nF wd), aI cI (a 24) 8 (nF (upN wy 0 e)), oTe a (nI ey) (nI le), aI cI (a 12) 64 bd, aI cI (a 13) 64 bs] := hD
  refine lv_iconst (v := nI 1) hx hb dX0_walk_7 (by decide) ?_
  refine lv_istore_n (lv' := [(3, .int (nI 1)), (0, .ref (a 5)), (1, .ref (a 2)), (2, .int (nI e))]) hx hb dX0_walk_8 rfl hl (by decide) rfl (fun ls hl => ?_)
  have lp_9 : ∀ (nf : Nat) (k : Nat), (1 ≤ k ∧ k ≤ ln e) → ln e - k < nf → ∀ (H : Heap) (locs : List Loc), va_P G vwCl [oCh a, aI cI (a 21) 8 (oF ln), aI cI (a 22) 8 (nF wd), aI cI (a 24) 8 (nF (pfx (wyF t le ey ln wd e) wy k)), oTe a (nI ey) (nI le), aI cI (a 12) 64 bd, aI cI (a 13) 64 bs] H → va_D A [oCh a, aI cI (a 21) 8 (oF ln), aI cI (a 22) 8 (nF wd), aI cI (a 24) 8 (nF (pfx (wyF t le ey ln wd e) wy k)), oTe a (nI ey) (nI le), aI cI (a 12) 64 bd, aI cI (a 13) 64 bs] → va_S A s.heap H locs → ∀ (ls : Array Slot), lv_has ls 4 [(0, .ref (a 5)), (1, .ref (a 2)), (2, .int (nI e)), (3, .int (nI k))] → W pg l ev (headSpec wsX0_walk ({ frames := 2, cells := 0, slots := 0, locals := 49 })).room s mt ([.ref (a 5), .ref (a 2), .int (nI e)] : List Value).toArray below meth cd H locs 0 0 (MQ below (rwQv G [oCh a, aI cI (a 21) 8 (oF ln), aI cI (a 22) 8 (nF wd), aI cI (a 24) 8 (nF wy), oTe a (nI ey) (nI le), aI cI (a 12) 64 bd, aI cI (a 13) 64 bs] (fun (_ : Unit) => True) (fun (_ : Unit) => [oCh a, aI cI (a 21) 8 (oF ln), aI cI (a 22) 8 (nF wd), aI cI (a 24) 8 (nF (pfx (wyF t le ey ln wd e) wy (ln e))), oTe a (nI ey) (nI le), aI cI (a 12) 64 bd, aI cI (a 13) 64 bs])) ([.ref (a 5), .ref (a 2), .int (nI e)] : List Value).toArray s 0 0 A) (F0 mt 9 ls []) := by
    intro nf
    induction nf with
    | zero => intro k hk hfu; exact absurd hfu (Nat.not_lt_zero _)
    | succ nf ih_9 =>
      intro k hk hfu H locs hP hD hS ls hl
      refine lv_iload_n hx hb dX0_walk_9 rfl (lv_at hl 3 rfl) ?_
      refine lv_aload_n hx hb dX0_walk_10 rfl (lv_at hl 0 rfl) ?_
      refine va_get (D := G) (own := RX0) (ref := "SpotRows$Chains") (ci := 0) (v := .ref (a 21)) (C := RX0) (T := TX0) (N := 4) hx hb hts hinX0 hown hK.1 hP 0 rfl rfl 0 (by decide) fl9 (fun _ h9 => h9) rfl dX0_walk_11 ?_
      refine lv_iload_n hx hb dX0_walk_14 rfl (lv_at hl 2 rfl) ?_
      refine ld_oF hx hb hK hP 1 (k := e) rfl (by first | omega | exact Nat.lt_of_le_of_lt (hch.2.2.2.1 _) (by decide)) (by decide) dX0_walk_15 ?_
      refine toi (oI_pos (by first | assumption | omega)) ?_
      refine nv_icmp_gt (tgt := 50) hx hb dX0_walk_16 (by decide) (by first | omega | exact Nat.lt_of_le_of_lt (hch.2.2.2.1 _) (by decide)) (by first | omega | exact Nat.lt_of_le_of_lt (hch.2.2.2.1 _) (by decide)) (fun c_16 => ?_) (fun c_16 => ?_)
      · have hP : va_P G vwCl [oCh a, aI cI (a 21) 8 (oF ln), aI cI (a 22) 8 (nF wd), aI cI (a 24) 8 (nF (pfx (wyF t le ey ln wd e) wy (ln e))), oTe a (nI ey) (nI le), aI cI (a 12) 64 bd, aI cI (a 13) 64 bs] H := by
          have ew : ([oCh a, aI cI (a 21) 8 (oF ln), aI cI (a 22) 8 (nF wd), aI cI (a 24) 8 (nF (pfx (wyF t le ey ln wd e) wy k)), oTe a (nI ey) (nI le), aI cI (a 12) 64 bd, aI cI (a 13) 64 bs] : va_W) = [oCh a, aI cI (a 21) 8 (oF ln), aI cI (a 22) 8 (nF wd), aI cI (a 24) 8 (nF (pfx (wyF t le ey ln wd e) wy (ln e))), oTe a (nI ey) (nI le), aI cI (a 12) 64 bd, aI cI (a 13) 64 bs] := (wvC rfl (wvC rfl (wvC rfl (wvC (congrArg (fun z => aI cI (a 24) 8 (nF z)) (show pfx (wyF t le ey ln wd e) wy k = pfx (wyF t le ey ln wd e) wy (ln e) from by rw [show k = ln e from by omega])) (wvC rfl (wvC rfl (wvC rfl rfl)))))))
          rw [← ew]; exact hP
        exact W.vret hx hb hr (fun zt ht zw => ⟨⟨(), rfl, trivial, by show va_P _ _ _ zt.heap; rw [ht]; exact hP⟩, by rw [hAe]; exact hS.F ht⟩) hS.2.2 dX0_walk_50
      obtain ⟨g1, g2, g3⟩ := wy_ok hch he (k - 1) (by omega)
      refine lv_aload_n hx hb dX0_walk_19 rfl (lv_at hl 0 rfl) ?_
      refine va_get (D := G) (own := RX0) (ref := "SpotRows$Chains") (ci := 0) (v := .ref (a 24)) (C := RX0) (T := TX0) (N := 4) hx hb hts hinX0 hown hK.1 hP 0 rfl rfl 3 (by decide) fl21 (fun _ h9 => h9) rfl dX0_walk_20 ?_
      refine lv_iload_n hx hb dX0_walk_23 rfl (lv_at hl 3 rfl) ?_
      refine lv_aload_n hx hb dX0_walk_24 rfl (lv_at hl 0 rfl) ?_
      refine lv_aload_n hx hb dX0_walk_25 rfl (lv_at hl 1 rfl) ?_
      refine lv_aload_n hx hb dX0_walk_26 rfl (lv_at hl 0 rfl) ?_
      refine va_get (D := G) (own := RX0) (ref := "SpotRows$Chains") (ci := 0) (v := .ref (a 24)) (C := RX0) (T := TX0) (N := 4) hx hb hts hinX0 hown hK.1 hP 0 rfl rfl 3 (by decide) fl21 (fun _ h9 => h9) rfl dX0_walk_27 ?_
      refine lv_iload_n hx hb dX0_walk_30 rfl (lv_at hl 3 rfl) ?_
      refine lv_iconst (v := nI 1) hx hb dX0_walk_31 (by decide) ?_
      refine lv_isub hx hb dX0_walk_32 ?_
      refine toi (pk_sub (a := k) (b := 1) (by first | omega | exact Nat.lt_of_le_of_lt (hch.2.2.2.1 _) (by decide))) ?_
      refine ld_nF hx hb hK hP 3 (k := k - 1) rfl (by first | omega | exact Nat.lt_of_le_of_lt (hch.2.2.2.1 _) (by decide)) (by decide) dX0_walk_33 ?_
      refine toi (show (nI ((pfx (wyF t le ey ln wd e) wy k) (k - 1))) = (nI (wyF t le ey ln wd e (k - 1))) from congrArg nI (pfx_in (by omega))) ?_
      refine lv_aload_n hx hb dX0_walk_34 rfl (lv_at hl 0 rfl) ?_
      refine va_get (D := G) (own := RX0) (ref := "SpotRows$Chains") (ci := 0) (v := .ref (a 22)) (C := RX0) (T := TX0) (N := 4) hx hb hts hinX0 hown hK.1 hP 0 rfl rfl 1 (by decide) fl15 (fun _ h9 => h9) rfl dX0_walk_35 ?_
      refine lv_iload_n hx hb dX0_walk_38 rfl (lv_at hl 2 rfl) ?_
      refine ld_nF hx hb hK hP 2 (k := e) rfl (by first | omega | exact Nat.lt_of_le_of_lt (hch.2.2.2.1 _) (by decide)) (by decide) dX0_walk_39 ?_
      refine cro_i (va_runV (As := [.ref (a 2), .int (nI (wyF t le ey ln wd e (k - 1))), .int (nI (wd e))]) (rest := [.int (nI k), .ref (a 24)]) ⟨hx, hb, hml, hown, hts⟩ (c_X0_firstNext l G cI cJ (a := a) (ey := ey) (le := le) (t := t) (bd := bd) (bs := bs) (ln := ln) (wd := wd) (e := wyF t le ey ln wd e (k - 1)) (w := wd e) (tb := by first | assumption | omega) (hT := by first | assumption | omega) (hey := by first | assumption | omega) (hle := by first | assumption | omega) (lb := hch.2.2.1) (wdb := hch.2.2.2.1) (he := by first | assumption | omega) (h2 := by first | assumption | omega) (hw := hch.2.2.2.1 e)) (cwV 3 hts gX0_walk_X0_firstNext rfl rfl rfl (by decide +kernel) ⟨Nat.le_of_ble_eq_true rfl, Nat.le_of_ble_eq_true rfl⟩) (preV_ro (wc := [oCh a, aI cI (a 21) 8 (oF ln), aI cI (a 22) 8 (nF wd), oTe a (nI ey) (nI le), aI cI (a 12) 64 bd, aI cI (a 13) 64 bs]) hK hP [0, 1, 2, 4, 5, 6] rfl 0 0 rfl rfl rfl) rfl rfl hl.1 rfl (lv_room (Nat.le_of_ble_eq_true rfl)) dX0_walk_40 ⟨Nat.zero_le _, Nat.zero_le _⟩) ?_
      refine st_nF hx hb hK hP hD hS 3 (k := k) rfl (by first | omega | exact Nat.lt_of_le_of_lt (hch.2.2.2.1 _) (by decide)) (by decide) dX0_walk_43 (fun H locs hP hD hS => ?_)
      have hP : va_P G vwCl [oCh a, aI cI (a 21) 8 (oF ln), aI cI (a 22) 8 (nF wd), aI cI (a 24) 8 (nF (upN (pfx (wyF t le ey ln wd e) wy k) k (fnx t le ey ln wd (wyF t le ey ln wd e (k - 1)) (wd e)))), oTe a (nI ey) (nI le), aI cI (a 12) 64 bd, aI cI (a 13) 64 bs] H := hP
      have hD : va_D A [oCh a, aI cI (a 21) 8 (oF ln), aI cI (a 22) 8 (nF wd), aI cI (a 24) 8 (nF (upN (pfx (wyF t le ey ln wd e) wy k) k (fnx t le ey ln wd (wyF t le ey ln wd e (k - 1)) (wd e)))), oTe a (nI ey) (nI le), aI cI (a 12) 64 bd, aI cI (a 13) 64 bs] := hD
      refine lv_iinc (v := nI (k + 1)) (lv' := [(3, .int (nI (k + 1))), (0, .ref (a 5)), (1, .ref (a 2)), (2, .int (nI e))]) hx hb dX0_walk_44 hl (k := 3) rfl (nI_add k 1) (by decide) rfl (fun ls hl => ?_)
      refine lv_goto (tgt := 9) hx hb dX0_walk_47 (by decide) ?_
      have hw_9 : ([oCh a, aI cI (a 21) 8 (oF ln), aI cI (a 22) 8 (nF wd), aI cI (a 24) 8 (nF (upN (pfx (wyF t le ey ln wd e) wy k) k (fnx t le ey ln wd (wyF t le ey ln wd e (k - 1)) (wd e)))), oTe a (nI ey) (nI le), aI cI (a 12) 64 bd, aI cI (a 13) 64 bs] : va_W) = [oCh a, aI cI (a 21) 8 (oF ln), aI cI (a 22) 8 (nF wd), aI cI (a 24) 8 (nF (pfx (wyF t le ey ln wd e) wy (k + 1))), oTe a (nI ey) (nI le), aI cI (a 12) 64 bd, aI cI (a 13) 64 bs] := (wvC rfl (wvC rfl (wvC rfl (wvC (congrArg (fun z => aI cI (a 24) 8 (nF z)) (show upN (pfx (wyF t le ey ln wd e) wy k) k (fnx t le ey ln wd (wyF t le ey ln wd e (k - 1)) (wd e)) = pfx (wyF t le ey ln wd e) wy (k + 1) from by (have h9 := pfx_s (wyF t le ey ln wd e) wy k; rw [← h9, show wyF t le ey ln wd e k = fnx t le ey ln wd (wyF t le ey ln wd e (k - 1)) (wd e) from (by rw [← show k - 1 + 1 = k from by omega]; rfl)]))) (wvC rfl (wvC rfl (wvC rfl rfl)))))))
      exact ih_9 (k + 1) (by first | rfl | omega | (simp_all; done)) (by omega) H locs (hw_9 ▸ hP) (hw_9 ▸ hD) hS ls (lvcv (l := [(0, .ref (a 5)), (1, .ref (a 2)), (2, .int (nI e)), (3, .int (nI (k + 1)))]) (lv_sub hl [1, 2, 3, 0] rfl) (lvC (lvC (lvC (lvC rfl)))))
  have hw_9 : ([oCh a, aI cI (a 21) 8 (oF ln), aI cI (a 22) 8 (nF wd), aI cI (a 24) 8 (nF (upN wy 0 e)), oTe a (nI ey) (nI le), aI cI (a 12) 64 bd, aI cI (a 13) 64 bs] : va_W) = [oCh a, aI cI (a 21) 8 (oF ln), aI cI (a 22) 8 (nF wd), aI cI (a 24) 8 (nF (pfx (wyF t le ey ln wd e) wy 1)), oTe a (nI ey) (nI le), aI cI (a 12) 64 bd, aI cI (a 13) 64 bs] := (wvC rfl (wvC rfl (wvC rfl (wvC (congrArg (fun z => aI cI (a 24) 8 (nF z)) (show upN wy 0 e = pfx (wyF t le ey ln wd e) wy 1 from by (have h9 := pfx_s (wyF t le ey ln wd e) wy 0; rw [pfx_0] at h9; exact h9))) (wvC rfl (wvC rfl (wvC rfl rfl)))))))
  exact lp_9 (ln e - 1 + 1) 1 (by first | rfl | omega | (simp_all; done)) (by omega) _ _ (hw_9 ▸ hP) (hw_9 ▸ hD) hS ls (lvcv (l := [(0, .ref (a 5)), (1, .ref (a 2)), (2, .int (nI e)), (3, .int (nI 1))]) (lv_sub hl [1, 2, 3, 0] rfl) (lvC (lvC (lvC (lvC rfl)))))

set_option maxHeartbeats 400000 in
set_option maxRecDepth 100000 in
theorem c_X0_weigh (l : Launch) (G : va_G) (cI cJ : ClassId) (a : Nat → Nat) (ey : Nat) (le : Nat) (t : Nat → Nat) (bd : Nat → Int32) (bs : Nat → Int32) (ln : Nat → Nat) (wd : Nat → Nat) (wy : Nat → Nat) (e : Nat) (tb : TB t) (hT : TT t bd bs) (hey : ey ≤ 8) (hle : le ≤ 100) (hch : CH t le ey ln wd) (he8 : e < 8) : Met l yX0_weigh wsX0_weigh ({ frames := 3, cells := 0, slots := 0, locals := 72 }) (rwP G cI cJ [.ref (a 5), .ref (a 2), .int (nI e)] [oCh a, aI cI (a 21) 8 (oF ln), aI cI (a 22) 8 (nF wd), aI cI (a 24) 8 (nF wy), oTe a (nI ey) (nI le), aI cI (a 12) 64 bd, aI cI (a 13) 64 bs]) (rwQi G [oCh a, aI cI (a 21) 8 (oF ln), aI cI (a 22) 8 (nF wd), aI cI (a 24) 8 (nF wy), oTe a (nI ey) (nI le), aI cI (a 12) 64 bd, aI cI (a 13) 64 bs] (fun (r : Int32) (_ : Unit) => r = oI (wgt t le ey ln wd e)) (fun (_ : Unit) => [oCh a, aI cI (a 21) 8 (oF ln), aI cI (a 22) 8 (nF wd), aI cI (a 24) 8 (nF (if ln e = 0 then wy else pfx (wyF t le ey ln wd e) wy (ln e))), oTe a (nI ey) (nI le), aI cI (a 12) 64 bd, aI cI (a 13) 64 bs])) 0 0 (ads [oCh a, aI cI (a 21) 8 (oF ln), aI cI (a 22) 8 (nF wd), aI cI (a 24) 8 (nF wy), oTe a (nI ey) (nI le), aI cI (a 12) 64 bd, aI cI (a 13) 64 bs]) := by
  refine Met.ofW (cc := cX0_weigh) (maxL := 6) (ret := (some .int)) (by decide) rfl ?_
  intro pg ev s mt args below meth cd s₁ B hml hv
  obtain ⟨rfl, hP, hD0, hK⟩ := hv
  have hx := B.exec
  have hb := B.bytes
  have hr := B.returns
  have hts := atoms_spec (ws := wsX0_weigh) B.pre
  have hown : s.vm.findClass RX0 = some mt.cls := findClass_of_methodNamed B.named
  have hlocks := B.notSynchronized
  have hD := ads_self hD0
  generalize hAe : ads [oCh a, aI cI (a 21) 8 (oF ln), aI cI (a 22) 8 (nF wd), aI cI (a 24) 8 (nF wy), oTe a (nI ey) (nI le), aI cI (a 12) 64 bd, aI cI (a 13) 64 bs] = A at hD ⊢
  have hS : va_S A s.heap s.heap [] := va_S.rf
  have hP : va_P G vwCl [oCh a, aI cI (a 21) 8 (oF ln), aI cI (a 22) 8 (nF wd), aI cI (a 24) 8 (nF wy), oTe a (nI ey) (nI le), aI cI (a 12) 64 bd, aI cI (a 13) 64 bs] s.heap := hP
  have hinX0 := (show ∀ w ∈ u_ws RX0 TX0 4, w ∈ wsX0_weigh by decide +kernel)
  have fl9 := hts (.fieldLink RX0 9 "SpotRows$Chains" "links" "[I") (by decide +kernel)
  have fl21 := hts (.fieldLink RX0 21 "SpotRows$Chains" "way" "[I") (by decide +kernel)
  have hl := lv_entry ([.ref (a 5), .ref (a 2), .int (nI e)]) (n := 6) (Nat.le_of_ble_eq_true rfl)
  rw [lg_entry_eq]
  generalize (lg_sl ([.ref (a 5), .ref (a 2), .int (nI e)]) ++ List.replicate (6 - (lg_sl ([.ref (a 5), .ref (a 2), .int (nI e)])).length) Slot.unset).toArray = ls at hl ⊢
  have hl : lv_has ls 6 [(0, .ref (a 5)), (1, .ref (a 2)), (2, .int (nI e))] := hl
  have f0 := hch.2.2.1 e
  refine lv_aload_n hx hb dX0_weigh_0 rfl (lv_at hl 0 rfl) ?_
  refine va_get (D := G) (own := RX0) (ref := "SpotRows$Chains") (ci := 0) (v := .ref (a 21)) (C := RX0) (T := TX0) (N := 4) hx hb hts hinX0 hown hK.1 hP 0 rfl rfl 0 (by decide) fl9 (fun _ h9 => h9) rfl dX0_weigh_1 ?_
  refine lv_iload_n hx hb dX0_weigh_4 rfl (lv_at hl 2 rfl) ?_
  refine ld_oF hx hb hK hP 1 (k := e) rfl (by omega) (by decide) dX0_weigh_5 ?_
  refine lv_iconst (v := (-1)) hx hb dX0_weigh_6 (by decide) ?_
  refine no_icmp_ne (tgt := 12) hx hb dX0_weigh_7 (by decide) (by omega) (fun c_7 => ?_) (fun c_7 => ?_)
  · refine lv_aload_n hx hb dX0_weigh_12 rfl (lv_at hl 0 rfl) ?_
    refine lv_aload_n hx hb dX0_weigh_13 rfl (lv_at hl 1 rfl) ?_
    refine lv_iload_n hx hb dX0_weigh_14 rfl (lv_at hl 2 rfl) ?_
    refine crw_v (free := fun _ => True) (va_runV (As := [.ref (a 2), .int (nI e)]) (rest := []) ⟨hx, hb, hml, hown, hts⟩ (c_X0_walk l G cI cJ (a := a) (ey := ey) (le := le) (t := t) (bd := bd) (bs := bs) (ln := ln) (wd := wd) (wy := wy) (e := e) (tb := by first | assumption | omega) (hT := by first | assumption | omega) (hey := by first | assumption | omega) (hle := by first | assumption | omega) (hch := by first | assumption | omega) (he := by first | assumption | omega)) (cwV 2 hts gX0_weigh_X0_walk rfl rfl rfl (by decide +kernel) ⟨Nat.le_of_ble_eq_true rfl, Nat.le_of_ble_eq_true rfl⟩) (preV_rw (wc := [oCh a, aI cI (a 21) 8 (oF ln), aI cI (a 22) 8 (nF wd), aI cI (a 24) 8 (nF wy), oTe a (nI ey) (nI le), aI cI (a 12) 64 bd, aI cI (a 13) 64 bs]) hK hP hD [0, 1, 2, 3, 4, 5, 6] rfl rfl 0 0 rfl rfl rfl) rfl rfl hl.1 rfl (lv_room (Nat.le_of_ble_eq_true rfl)) dX0_weigh_15 ⟨Nat.zero_le _, Nat.zero_le _⟩) hP hD hS [0, 1, 2, 3, 4, 5, 6] rfl [a 5, a 21, a 22, a 24, a 2, a 12, a 13] (fun u => rfl) rfl (fun u_ H locs hw_15 hP hD hS => ?_)
    have hP : va_P G vwCl [oCh a, aI cI (a 21) 8 (oF ln), aI cI (a 22) 8 (nF wd), aI cI (a 24) 8 (nF (pfx (wyF t le ey ln wd e) wy (ln e))), oTe a (nI ey) (nI le), aI cI (a 12) 64 bd, aI cI (a 13) 64 bs] H := hP
    have hD : va_D A [oCh a, aI cI (a 21) 8 (oF ln), aI cI (a 22) 8 (nF wd), aI cI (a 24) 8 (nF (pfx (wyF t le ey ln wd e) wy (ln e))), oTe a (nI ey) (nI le), aI cI (a 12) 64 bd, aI cI (a 13) 64 bs] := hD
    refine lv_ldc2 (own := RX0) (v := 1000) hx hb hown (hts (.constantLong RX0 67 (1000)) (by decide +kernel)) dX0_weigh_18 ?_
    refine tol (show (1000 : Int64) = lN 1000 by decide) ?_
    refine lv_lstore_n (lv' := [(3, .long (lN 1000)), (0, .ref (a 5)), (1, .ref (a 2)), (2, .int (nI e))]) hx hb dX0_weigh_21 rfl hl (by decide) rfl (fun ls hl => ?_)
    refine lv_aload_n hx hb dX0_weigh_22 rfl (lv_at hl 1 rfl) ?_
    refine va_get (D := G) (own := RX0) (ref := "SpotRows$Chains") (ci := 0) (v := .ref (a 21)) (C := RX0) (T := TX0) (N := 4) hx hb hts hinX0 hown hK.1 hP 0 rfl rfl 0 (by decide) fl9 (fun _ h9 => h9) rfl dX0_weigh_23 ?_
    refine lv_iload_n hx hb dX0_weigh_26 rfl (lv_at hl 3 rfl) ?_
    refine ld_oF hx hb hK hP 1 (k := e) rfl (by omega) (by decide) dX0_weigh_27 ?_
    refine toi (oI_pos (by first | assumption | omega)) ?_
    refine lv_istore (lv' := [(5, .int (nI (ln e - 1))), (3, .long (lN 1000)), (0, .ref (a 5)), (1, .ref (a 2)), (2, .int (nI e))]) hx hb dX0_weigh_28 hl (by decide) rfl (fun ls hl => ?_)
    have lp_30 : ∀ (nf : Nat) (k : Nat) (w : Nat), (k + 1 ≤ ln e) → (w ≤ 1000000) → (wgf t le (wyF t le ey ln wd e) (ln e - 1) 1000 = wgf t le (wyF t le ey ln wd e) k w) → k < nf → ∀ (H : Heap) (locs : List Loc), va_P G vwCl [oCh a, aI cI (a 21) 8 (oF ln), aI cI (a 22) 8 (nF wd), aI cI (a 24) 8 (nF (pfx (wyF t le ey ln wd e) wy (ln e))), oTe a (nI ey) (nI le), aI cI (a 12) 64 bd, aI cI (a 13) 64 bs] H → va_D A [oCh a, aI cI (a 21) 8 (oF ln), aI cI (a 22) 8 (nF wd), aI cI (a 24) 8 (nF (pfx (wyF t le ey ln wd e) wy (ln e))), oTe a (nI ey) (nI le), aI cI (a 12) 64 bd, aI cI (a 13) 64 bs] → va_S A s.heap H locs → ∀ (ls : Array Slot), lv_has ls 6 [(0, .ref (a 5)), (1, .ref (a 2)), (2, .int (nI e)), (3, .long (lN w)), (5, .int (nI k))] → W pg l ev (headSpec wsX0_weigh ({ frames := 3, cells := 0, slots := 0, locals := 72 })).room s mt ([.ref (a 5), .ref (a 2), .int (nI e)] : List Value).toArray below meth cd H locs 0 0 (MQ below (rwQi G [oCh a, aI cI (a 21) 8 (oF ln), aI cI (a 22) 8 (nF wd), aI cI (a 24) 8 (nF wy), oTe a (nI ey) (nI le), aI cI (a 12) 64 bd, aI cI (a 13) 64 bs] (fun (r : Int32) (_ : Unit) => r = oI (wgt t le ey ln wd e)) (fun (_ : Unit) => [oCh a, aI cI (a 21) 8 (oF ln), aI cI (a 22) 8 (nF wd), aI cI (a 24) 8 (nF (if ln e = 0 then wy else pfx (wyF t le ey ln wd e) wy (ln e))), oTe a (nI ey) (nI le), aI cI (a 12) 64 bd, aI cI (a 13) 64 bs])) ([.ref (a 5), .ref (a 2), .int (nI e)] : List Value).toArray s 0 0 A) (F0 mt 30 ls []) := by
      intro nf
      induction nf with
      | zero => intro k w hk hw hq hfu; exact absurd hfu (Nat.not_lt_zero _)
      | succ nf ih_30 =>
        intro k w hk hw hq hfu H locs hP hD hS ls hl
        refine lv_iload hx hb dX0_weigh_30 (lv_at hl 4 rfl) ?_
        refine nv_if_le (tgt := 77) hx hb dX0_weigh_32 (by decide) (by omega) (fun c_32 => ?_) (fun c_32 => ?_)
        · refine lv_lload_n hx hb dX0_weigh_77 rfl (lv_at hl 3 rfl) ?_
          refine lv_l2i (v := nI w) hx hb dX0_weigh_78 (lN_i w) ?_
          have hP : va_P G vwCl [oCh a, aI cI (a 21) 8 (oF ln), aI cI (a 22) 8 (nF wd), aI cI (a 24) 8 (nF (if ln e = 0 then wy else pfx (wyF t le ey ln wd e) wy (ln e))), oTe a (nI ey) (nI le), aI cI (a 12) 64 bd, aI cI (a 13) 64 bs] H := by
            have ew : ([oCh a, aI cI (a 21) 8 (oF ln), aI cI (a 22) 8 (nF wd), aI cI (a 24) 8 (nF (pfx (wyF t le ey ln wd e) wy (ln e))), oTe a (nI ey) (nI le), aI cI (a 12) 64 bd, aI cI (a 13) 64 bs] : va_W) = [oCh a, aI cI (a 21) 8 (oF ln), aI cI (a 22) 8 (nF wd), aI cI (a 24) 8 (nF (if ln e = 0 then wy else pfx (wyF t le ey ln wd e) wy (ln e))), oTe a (nI ey) (nI le), aI cI (a 12) 64 bd, aI cI (a 13) 64 bs] := (wvC rfl (wvC rfl (wvC rfl (wvC (congrArg (fun z => aI cI (a 24) 8 (nF z)) (show pfx (wyF t le ey ln wd e) wy (ln e) = if ln e = 0 then wy else pfx (wyF t le ey ln wd e) wy (ln e) from by rw [if_neg c_7])) (wvC rfl (wvC rfl (wvC rfl rfl)))))))
            rw [← ew]; exact hP
          exact W.iret (v := nI w) hx hb hr (fun zt ht zw => ⟨⟨_, (), rfl, ((nI_o w).trans (congrArg oI (show w + 1 = (wgt t le ey ln wd e) from by rw [wgt, if_neg c_7, hq, show k = 0 from by omega]; rfl))), by show va_P _ _ _ zt.heap; rw [ht]; exact hP⟩, by rw [hAe]; exact hS.F ht⟩) hS.2.2 dX0_weigh_79
        obtain ⟨g1, g2, g3⟩ := wy_ok hch c_7 (k - 1) (by omega)
        obtain ⟨i1, i2, i3⟩ := wy_ok hch c_7 k (by omega)
        have g4 := wy_fc hch c_7 (k := k - 1) (by omega)
        rw [show k - 1 + 1 = k from by omega] at g4
        have g5 := fc_le t le (wyF t le ey ln wd e (k - 1)) (wyF t le ey ln wd e k)
        have g6 : w * (fc t le (wyF t le ey ln wd e (k - 1)) (wyF t le ey ln wd e k) - 1) ≤ 1000000 * 100000 := Nat.mul_le_mul hw (by omega)
        have g7 : wyF t le ey ln wd e (k - 1) ≠ wyF t le ey ln wd e k := by intro h; rw [h] at g1; omega
        refine lv_lload_n hx hb dX0_weigh_35 rfl (lv_at hl 3 rfl) ?_
        refine lv_aload_n hx hb dX0_weigh_36 rfl (lv_at hl 1 rfl) ?_
        refine lv_aload_n hx hb dX0_weigh_37 rfl (lv_at hl 0 rfl) ?_
        refine va_get (D := G) (own := RX0) (ref := "SpotRows$Chains") (ci := 0) (v := .ref (a 24)) (C := RX0) (T := TX0) (N := 4) hx hb hts hinX0 hown hK.1 hP 0 rfl rfl 3 (by decide) fl21 (fun _ h9 => h9) rfl dX0_weigh_38 ?_
        refine lv_iload hx hb dX0_weigh_41 (lv_at hl 4 rfl) ?_
        refine lv_iconst (v := nI 1) hx hb dX0_weigh_43 (by decide) ?_
        refine lv_isub hx hb dX0_weigh_44 ?_
        refine toi (pk_sub (a := k) (b := 1) (by omega)) ?_
        refine ld_nF hx hb hK hP 3 (k := k - 1) rfl (by omega) (by decide) dX0_weigh_45 ?_
        refine toi (show (nI ((pfx (wyF t le ey ln wd e) wy (ln e)) (k - 1))) = (nI (wyF t le ey ln wd e (k - 1))) from congrArg nI (pfx_in (by omega))) ?_
        refine lv_aload_n hx hb dX0_weigh_46 rfl (lv_at hl 0 rfl) ?_
        refine va_get (D := G) (own := RX0) (ref := "SpotRows$Chains") (ci := 0) (v := .ref (a 24)) (C := RX0) (T := TX0) (N := 4) hx hb hts hinX0 hown hK.1 hP 0 rfl rfl 3 (by decide) fl21 (fun _ h9 => h9) rfl dX0_weigh_47 ?_
        refine lv_iload hx hb dX0_weigh_50 (lv_at hl 4 rfl) ?_
        refine ld_nF hx hb hK hP 3 (k := k) rfl (by omega) (by decide) dX0_weigh_52 ?_
        refine toi (show (nI ((pfx (wyF t le ey ln wd e) wy (ln e)) k)) = (nI (wyF t le ey ln wd e k)) from congrArg nI (pfx_in (by omega))) ?_
        refine cro_i (va_runV (As := [.int (nI (wyF t le ey ln wd e (k - 1))), .int (nI (wyF t le ey ln wd e k))]) (rest := [.long (lN w)]) ⟨hx, hb, hml, hown, hts⟩ (c_X5_factorOf l G cI cJ (a := a) (ey := nI ey) (le := le) (t := t) (bd := bd) (bs := bs) (x := wyF t le ey ln wd e (k - 1)) (y := wyF t le ey ln wd e k) (tb := by first | assumption | omega) (hT := by first | assumption | omega) (h_x := by first | assumption | omega) (h_y := by first | assumption | omega) (h_n := by first | assumption | omega) (hle := by first | assumption | omega)) (cwV 2 hts gX0_weigh_X5_factorOf rfl rfl rfl (by decide +kernel) ⟨Nat.le_of_ble_eq_true rfl, Nat.le_of_ble_eq_true rfl⟩) (preV_ro (wc := [oTe a (nI ey) (nI le), aI cI (a 12) 64 bd, aI cI (a 13) 64 bs]) hK hP [4, 5, 6] rfl 5 4 rfl rfl rfl) rfl rfl hl.1 rfl (lv_room (Nat.le_of_ble_eq_true rfl)) dX0_weigh_53 ⟨Nat.zero_le _, Nat.zero_le _⟩) ?_
        refine toi (oI_pos (by first | assumption | omega)) ?_
        refine lv_i2l (v := lN (fc t le (wyF t le ey ln wd e (k - 1)) (wyF t le ey ln wd e k) - 1)) hx hb dX0_weigh_56 (nI_l (by omega)) ?_
        refine lv_lmul hx hb dX0_weigh_57 ?_
        refine tol (lN_mul w (fc t le (wyF t le ey ln wd e (k - 1)) (wyF t le ey ln wd e k) - 1)) ?_
        refine lv_ldc2 (own := RX0) (v := 1000) hx hb hown (hts (.constantLong RX0 67 (1000)) (by decide +kernel)) dX0_weigh_58 ?_
        refine tol (show (1000 : Int64) = lN 1000 by decide) ?_
        refine lv_ldiv hx hb dX0_weigh_61 (lN_ne0 (by omega) (by omega)) ?_
        refine tol (pk_lDiv (a := (w * (fc t le (wyF t le ey ln wd e (k - 1)) (wyF t le ey ln wd e k) - 1))) (b := 1000) (by omega) (by omega) (by omega)) ?_
        refine lv_lstore_n (lv' := [(3, .long (lN (w * (fc t le (wyF t le ey ln wd e (k - 1)) (wyF t le ey ln wd e k) - 1) / 1000))), (0, .ref (a 5)), (1, .ref (a 2)), (2, .int (nI e)), (5, .int (nI k))]) hx hb dX0_weigh_62 rfl hl (by decide) rfl (fun ls hl => ?_)
        refine lv_lload_n hx hb dX0_weigh_63 rfl (lv_at hl 0 rfl) ?_
        refine lv_ldc2 (own := RX0) (v := 1000000) hx hb hown (hts (.constantLong RX0 69 (1000000)) (by decide +kernel)) dX0_weigh_64 ?_
        refine tol (show (1000000 : Int64) = lN 1000000 by decide) ?_
        refine va_mmin_long hx hb (hml.trans hl.1.symm) (own := RX0) hown (hts (.methodLink RX0 71 Lib.MathLoose.min_long.x) (by decide +kernel)) (hts (.static Lib.MathLoose.min_long.x) (by decide +kernel)) (hts (.initialized "java/lang/Math") (by decide +kernel)) (hts (.code Lib.MathLoose.min_long.x Lib.MathLoose.min_long.code 4 (some .long)) (by decide +kernel)) (Nat.le_of_ble_eq_true rfl) (Nat.le_of_ble_eq_true rfl) (Nat.zero_le _) (Nat.zero_le _) dX0_weigh_67 ?_
        refine tol (minL (by omega) (by omega)) ?_
        refine lv_lstore_n (lv' := [(3, .long (lN (min (w * (fc t le (wyF t le ey ln wd e (k - 1)) (wyF t le ey ln wd e k) - 1) / 1000) 1000000))), (0, .ref (a 5)), (1, .ref (a 2)), (2, .int (nI e)), (5, .int (nI k))]) hx hb dX0_weigh_70 rfl hl (by decide) rfl (fun ls hl => ?_)
        refine lv_iinc (v := nI (k - 1)) (lv' := [(5, .int (nI (k - 1))), (3, .long (lN (min (w * (fc t le (wyF t le ey ln wd e (k - 1)) (wyF t le ey ln wd e k) - 1) / 1000) 1000000))), (0, .ref (a 5)), (1, .ref (a 2)), (2, .int (nI e))]) hx hb dX0_weigh_71 hl (k := 4) rfl (sb_m1 (by omega)) (by decide) rfl (fun ls hl => ?_)
        refine lv_goto (tgt := 30) hx hb dX0_weigh_74 (by decide) ?_
        exact ih_30 (k - 1) (min (w * (fc t le (wyF t le ey ln wd e (k - 1)) (wyF t le ey ln wd e k) - 1) / 1000) 1000000) (by first | rfl | omega | (simp_all; done)) (by first | rfl | omega | (simp_all; done)) (by rw [hq]; (have h9 : k = k - 1 + 1 := by omega); rw [show wgf t le (wyF t le ey ln wd e) k w = wgf t le (wyF t le ey ln wd e) (k - 1 + 1) w from (by rw [← h9]), wgf, ← h9]) (by omega) H locs hP hD hS ls (lvcv (l := [(0, .ref (a 5)), (1, .ref (a 2)), (2, .int (nI e)), (3, .long (lN (min (w * (fc t le (wyF t le ey ln wd e (k - 1)) (wyF t le ey ln wd e k) - 1) / 1000) 1000000))), (5, .int (nI (k - 1)))]) (lv_sub hl [2, 3, 4, 1, 0] rfl) (lvC (lvC (lvC (lvC (lvC rfl))))))
    exact lp_30 ((ln e - 1) + 1) (ln e - 1) 1000 (by first | rfl | omega | (simp_all; done)) (by first | rfl | omega | (simp_all; done)) (by rfl) (by omega) _ _ hP hD hS ls (lvcv (l := [(0, .ref (a 5)), (1, .ref (a 2)), (2, .int (nI e)), (3, .long (lN 1000)), (5, .int (nI (ln e - 1)))]) (lv_sub hl [2, 3, 4, 1, 0] rfl) (lvC (lvC (lvC (lvC (lvC rfl))))))
  refine lv_iconst (v := (-1)) hx hb dX0_weigh_10 (by decide) ?_
  have hP : va_P G vwCl [oCh a, aI cI (a 21) 8 (oF ln), aI cI (a 22) 8 (nF wd), aI cI (a 24) 8 (nF (if ln e = 0 then wy else pfx (wyF t le ey ln wd e) wy (ln e))), oTe a (nI ey) (nI le), aI cI (a 12) 64 bd, aI cI (a 13) 64 bs] s.heap := by
    have ew : ([oCh a, aI cI (a 21) 8 (oF ln), aI cI (a 22) 8 (nF wd), aI cI (a 24) 8 (nF wy), oTe a (nI ey) (nI le), aI cI (a 12) 64 bd, aI cI (a 13) 64 bs] : va_W) = [oCh a, aI cI (a 21) 8 (oF ln), aI cI (a 22) 8 (nF wd), aI cI (a 24) 8 (nF (if ln e = 0 then wy else pfx (wyF t le ey ln wd e) wy (ln e))), oTe a (nI ey) (nI le), aI cI (a 12) 64 bd, aI cI (a 13) 64 bs] := (wvC rfl (wvC rfl (wvC rfl (wvC (congrArg (fun z => aI cI (a 24) 8 (nF z)) (show wy = if ln e = 0 then wy else pfx (wyF t le ey ln wd e) wy (ln e) from by rw [if_pos c_7])) (wvC rfl (wvC rfl (wvC rfl rfl)))))))
    rw [← ew]; exact hP
  exact W.iret (v := (-1)) hx hb hr (fun zt ht zw => ⟨⟨_, (), rfl, (m1_o.trans (congrArg oI (show 0 = (wgt t le ey ln wd e) from by rw [wgt, if_pos c_7]))), by show va_P _ _ _ zt.heap; rw [ht]; exact hP⟩, by rw [hAe]; exact hS.F ht⟩) hS.2.2 dX0_weigh_11
