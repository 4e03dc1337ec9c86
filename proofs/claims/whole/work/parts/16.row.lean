set_option maxHeartbeats 400000 in
set_option maxRecDepth 100000 in
theorem c_X3_isSmoothWidth (l : Launch) (G : va_G) (cI cJ : ClassId) (x : Int32)  : Met l yX3_isSmoothWidth wsX3_isSmoothWidth ({ frames := 0, cells := 0, slots := 0, locals := 0 }) (roP G cI cJ [.int x] []) (vp_Si (fun r => r = bi (wid x))) 0 0 (fun _ => False) := by
  refine Met.ofW (cc := cX3_isSmoothWidth) (maxL := 1) (ret := (some .boolean)) (by decide) rfl ?_
  intro pg ev s mt args below meth cd s₁ B hml hv
  obtain ⟨rfl, hP, hK⟩ := hv
  have hx := B.exec
  have hb := B.bytes
  have hr := B.returns
  have hts := atoms_spec (ws := wsX3_isSmoothWidth) B.pre
  have hown : s.vm.findClass RX3 = some mt.cls := findClass_of_methodNamed B.named
  have hlocks := B.notSynchronized
  have hP : va_P G vwCl [] s.heap := hP
  have hl := lv_entry ([.int x]) (n := 1) (Nat.le_of_ble_eq_true rfl)
  rw [lg_entry_eq]
  generalize (lg_sl ([.int x]) ++ List.replicate (1 - (lg_sl ([.int x])).length) Slot.unset).toArray = ls at hl ⊢
  have hl : lv_has ls 1 [(0, .int x)] := hl
  refine lv_iload_n hx hb dX3_isSmoothWidth_0 rfl (lv_at hl 0 rfl) ?_
  refine lv_iconst (v := nI 1) hx hb dX3_isSmoothWidth_1 (by decide) ?_
  refine lv_icmp_lt (tgt := 22) hx hb dX3_isSmoothWidth_2 (by decide) (fun c_2 => ?_) (fun c_2 => ?_)
  · refine lv_iconst (v := nI 0) hx hb dX3_isSmoothWidth_22 (by decide) ?_
    exact W.zret (v := nI 0) hx hb hr rfl (fun zt ht zw => ⟨_, rfl, (show nI 0 = bi (wid x) from (bi_f (by first | exact fun h => nrg2_lt (lo := 1) (hi := 7) (by decide) c_2 h.1 | exact fun h => nrg2_gt (lo := 1) (hi := 7) (by decide) c_8 h.1 | exact ⟨k1, by rw [e_x]; exact c_15⟩ | exact fun h => c_15 (by have h2 := h.2; rw [e_x] at h2; exact h2))).symm), ht⟩) (fun q hq => absurd hq List.not_mem_nil) dX3_isSmoothWidth_23
  refine lv_iload_n hx hb dX3_isSmoothWidth_5 rfl (lv_at hl 0 rfl) ?_
  refine lv_bipush (v := nI 7) hx hb dX3_isSmoothWidth_6 (by decide) ?_
  refine lv_icmp_gt (tgt := 22) hx hb dX3_isSmoothWidth_8 (by decide) (fun c_8 => ?_) (fun c_8 => ?_)
  · refine lv_iconst (v := nI 0) hx hb dX3_isSmoothWidth_22 (by decide) ?_
    exact W.zret (v := nI 0) hx hb hr rfl (fun zt ht zw => ⟨_, rfl, (show nI 0 = bi (wid x) from (bi_f (by first | exact fun h => nrg2_lt (lo := 1) (hi := 7) (by decide) c_2 h.1 | exact fun h => nrg2_gt (lo := 1) (hi := 7) (by decide) c_8 h.1 | exact ⟨k1, by rw [e_x]; exact c_15⟩ | exact fun h => c_15 (by have h2 := h.2; rw [e_x] at h2; exact h2))).symm), ht⟩) (fun q hq => absurd hq List.not_mem_nil) dX3_isSmoothWidth_23
  have k1 := rg2_of (by decide) (by decide) c_2 c_8
  obtain ⟨j_x, h_x, rfl⟩ := rg2_ex k1
  have e_x := nn_nI (j := j_x) (by omega)
  refine lv_iload_n hx hb dX3_isSmoothWidth_11 rfl (lv_at hl 0 rfl) ?_
  refine lv_iconst (v := nI 2) hx hb dX3_isSmoothWidth_12 (by decide) ?_
  refine lv_irem hx hb dX3_isSmoothWidth_13 (nI_ne0 (by omega) (by omega)) ?_
  refine toi (pk_rem (a := j_x) (d := 2) (by omega) (by omega) (by omega)) ?_
  refine lv_iconst (v := nI 1) hx hb dX3_isSmoothWidth_14 (by decide) ?_
  refine nv_icmp_ne (tgt := 22) hx hb dX3_isSmoothWidth_15 (by decide) (by omega) (by omega) (fun c_15 => ?_) (fun c_15 => ?_)
  · refine lv_iconst (v := nI 0) hx hb dX3_isSmoothWidth_22 (by decide) ?_
    exact W.zret (v := nI 0) hx hb hr rfl (fun zt ht zw => ⟨_, rfl, (show nI 0 = bi (wid (nI j_x)) from (bi_f (by first | exact fun h => nrg2_lt (lo := 1) (hi := 7) (by decide) c_2 h.1 | exact fun h => nrg2_gt (lo := 1) (hi := 7) (by decide) c_8 h.1 | exact ⟨k1, by rw [e_x]; exact c_15⟩ | exact fun h => c_15 (by have h2 := h.2; rw [e_x] at h2; exact h2))).symm), ht⟩) (fun q hq => absurd hq List.not_mem_nil) dX3_isSmoothWidth_23
  refine lv_iconst (v := nI 1) hx hb dX3_isSmoothWidth_18 (by decide) ?_
  refine lv_goto (tgt := 23) hx hb dX3_isSmoothWidth_19 (by decide) ?_
  exact W.zret (v := nI 1) hx hb hr rfl (fun zt ht zw => ⟨_, rfl, (show nI 1 = bi (wid (nI j_x)) from (bi_t (by first | exact fun h => nrg2_lt (lo := 1) (hi := 7) (by decide) c_2 h.1 | exact fun h => nrg2_gt (lo := 1) (hi := 7) (by decide) c_8 h.1 | exact ⟨k1, by rw [e_x]; exact c_15⟩ | exact fun h => c_15 (by have h2 := h.2; rw [e_x] at h2; exact h2))).symm), ht⟩) (fun q hq => absurd hq List.not_mem_nil) dX3_isSmoothWidth_23

set_option maxHeartbeats 400000 in
set_option maxRecDepth 100000 in
theorem c_X3_valueOfDay (l : Launch) (G : va_G) (cI cJ : ClassId) (a : Nat → Nat) (en : Int32) (ey : Nat) (le : Int32) (t : Nat → Nat) (we : Nat → Nat) (d : Nat) (tb : TB t) (wb : WB we) (hey : ey ≤ 8) (hd : d < 240) : Met l yX3_valueOfDay wsX3_valueOfDay ({ frames := 2, cells := 0, slots := 0, locals := 44 }) (roP G cI cJ [.ref (a 6), .ref (a 2), .ref (a 5), .int (nI d)] [oRo a en, oTe a (nI ey) le, aI cI (a 11) 1920 (oF t), oCh a, aI cI (a 23) 8 (oF we)]) (vp_Si (fun r => r = oI (vD t we ey d))) 0 0 (fun _ => False) := by
  refine Met.ofW (cc := cX3_valueOfDay) (maxL := 8) (ret := (some .int)) (by decide) rfl ?_
  intro pg ev s mt args below meth cd s₁ B hml hv
  obtain ⟨rfl, hP, hK⟩ := hv
  have hx := B.exec
  have hb := B.bytes
  have hr := B.returns
  have hts := atoms_spec (ws := wsX3_valueOfDay) B.pre
  have hown : s.vm.findClass RX3 = some mt.cls := findClass_of_methodNamed B.named
  have hlocks := B.notSynchronized
  have hP : va_P G vwCl [oRo a en, oTe a (nI ey) le, aI cI (a 11) 1920 (oF t), oCh a, aI cI (a 23) 8 (oF we)] s.heap := hP
  have hinX5 := (show ∀ w ∈ u_ws RX5 TX5 5, w ∈ wsX3_valueOfDay by decide +kernel)
  have fn22 := va_Nw.use (A := ([.ref (a 6), .ref (a 2), .ref (a 5), .int (nI d)] : List Value).toArray) rfl (hK.2.1 (.fieldLinkNest "SpotRows$Row" 22 "SpotRows$Tellings" "eyes" "I" "SpotRows") (by decide +kernel))
  have hinX0 := (show ∀ w ∈ u_ws RX0 TX0 4, w ∈ wsX3_valueOfDay by decide +kernel)
  have fn27 := va_Nw.use (A := ([.ref (a 6), .ref (a 2), .ref (a 5), .int (nI d)] : List Value).toArray) rfl (hK.2.1 (.fieldLinkNest "SpotRows$Row" 27 "SpotRows$Chains" "weights" "[I" "SpotRows") (by decide +kernel))
  have hl := lv_entry ([.ref (a 6), .ref (a 2), .ref (a 5), .int (nI d)]) (n := 8) (Nat.le_of_ble_eq_true rfl)
  rw [lg_entry_eq]
  generalize (lg_sl ([.ref (a 6), .ref (a 2), .ref (a 5), .int (nI d)]) ++ List.replicate (8 - (lg_sl ([.ref (a 6), .ref (a 2), .ref (a 5), .int (nI d)])).length) Slot.unset).toArray = ls at hl ⊢
  have hl : lv_has ls 8 [(0, .ref (a 6)), (1, .ref (a 2)), (2, .ref (a 5)), (3, .int (nI d))] := hl
  refine lv_lconst (v := lN 0) hx hb dX3_valueOfDay_0 (by decide) ?_
  refine lv_lstore (lv' := [(4, .long (lN 0)), (0, .ref (a 6)), (1, .ref (a 2)), (2, .ref (a 5)), (3, .int (nI d))]) hx hb dX3_valueOfDay_1 hl (by decide) rfl (fun ls hl => ?_)
  refine lv_iconst (v := nI 0) hx hb dX3_valueOfDay_3 (by decide) ?_
  refine lv_istore (lv' := [(6, .int (nI 0)), (4, .long (lN 0)), (0, .ref (a 6)), (1, .ref (a 2)), (2, .ref (a 5)), (3, .int (nI d))]) hx hb dX3_valueOfDay_4 hl (by decide) rfl (fun ls hl => ?_)
  refine lv_iconst (v := nI 0) hx hb dX3_valueOfDay_6 (by decide) ?_
  refine lv_istore (lv' := [(7, .int (nI 0)), (6, .int (nI 0)), (4, .long (lN 0)), (0, .ref (a 6)), (1, .ref (a 2)), (2, .ref (a 5)), (3, .int (nI d))]) hx hb dX3_valueOfDay_7 hl (by decide) rfl (fun ls hl => ?_)
  have lp_9 : ∀ (nf : Nat) (k : Nat), (k ≤ ey) → ey - k < nf → ∀ (ls : Array Slot), lv_has ls 8 [(0, .ref (a 6)), (1, .ref (a 2)), (2, .ref (a 5)), (3, .int (nI d)), (4, .long (lN (vS t we d k))), (6, .int (nI (vC t we d k))), (7, .int (nI k))] → W pg l ev (headSpec wsX3_valueOfDay ({ frames := 2, cells := 0, slots := 0, locals := 44 })).room s mt ([.ref (a 6), .ref (a 2), .ref (a 5), .int (nI d)] : List Value).toArray below meth cd s.heap [] 0 0 (MQ below (vp_Si (fun r => r = oI (vD t we ey d))) ([.ref (a 6), .ref (a 2), .ref (a 5), .int (nI d)] : List Value).toArray s 0 0 (fun _ => False)) (F0 mt 9 ls []) := by
    intro nf
    induction nf with
    | zero => intro k hk hfu; exact absurd hfu (Nat.not_lt_zero _)
    | succ nf ih_9 =>
      intro k hk hfu ls hl
      have f1 := vC_le t we d k
      have f2 := vS_le tb wb d k
      have f3 := num_le tb (k * 240 + d)
      have f4 := wb k
      refine lv_iload hx hb dX3_valueOfDay_9 (lv_at hl 6 rfl) ?_
      refine lv_aload_n hx hb dX3_valueOfDay_11 rfl (lv_at hl 1 rfl) ?_
      refine va_getN (D := G) (own := RX3) (host := "SpotRows") (ref := "SpotRows$Tellings") (ci := 5) (v := .int (nI ey)) (C := RX5) (T := TX5) (N := 5) hx hb hts hinX5 hown hK.1 hP 1 rfl rfl 3 (by decide) fn22 (fun _ h9 => h9) rfl dX3_valueOfDay_12 ?_
      refine nv_icmp_ge (tgt := 70) hx hb dX3_valueOfDay_15 (by decide) (by first | omega | exact Nat.le_trans (wb _) (by decide) | exact Nat.lt_of_le_of_lt (wb _) (by decide) | exact Nat.le_trans (TB_le tb _) (by decide)) (by first | omega | exact Nat.le_trans (wb _) (by decide) | exact Nat.lt_of_le_of_lt (wb _) (by decide) | exact Nat.le_trans (TB_le tb _) (by decide)) (fun c_15 => ?_) (fun c_15 => ?_)
      · have hke : k = ey := by omega
        refine lv_iload hx hb dX3_valueOfDay_70 (lv_at hl 5 rfl) ?_
        refine nv_if_ne (tgt := 79) hx hb dX3_valueOfDay_72 (by decide) (by first | omega | exact Nat.le_trans (wb _) (by decide) | exact Nat.lt_of_le_of_lt (wb _) (by decide) | exact Nat.le_trans (TB_le tb _) (by decide)) (fun c_72 => ?_) (fun c_72 => ?_)
        · refine lv_lload hx hb dX3_valueOfDay_79 (lv_at hl 4 rfl) ?_
          refine lv_iload hx hb dX3_valueOfDay_81 (lv_at hl 5 rfl) ?_
          refine lv_i2l (v := lN (vC t we d k)) hx hb dX3_valueOfDay_83 (nI_l (by first | omega | exact Nat.le_trans (wb _) (by decide) | exact Nat.lt_of_le_of_lt (wb _) (by decide) | exact Nat.le_trans (TB_le tb _) (by decide))) ?_
          refine lv_ldiv hx hb dX3_valueOfDay_84 (lN_ne0 (by first | omega | exact Nat.le_trans (wb _) (by decide) | exact Nat.lt_of_le_of_lt (wb _) (by decide) | exact Nat.le_trans (TB_le tb _) (by decide)) (by first | omega | exact Nat.le_trans (wb _) (by decide) | exact Nat.lt_of_le_of_lt (wb _) (by decide) | exact Nat.le_trans (TB_le tb _) (by decide))) ?_
          refine tol (pk_lDiv (a := (vS t we d k)) (b := (vC t we d k)) (by first | omega | exact Nat.le_trans (wb _) (by decide) | exact Nat.lt_of_le_of_lt (wb _) (by decide) | exact Nat.le_trans (TB_le tb _) (by decide)) (by first | omega | exact Nat.le_trans (wb _) (by decide) | exact Nat.lt_of_le_of_lt (wb _) (by decide) | exact Nat.le_trans (TB_le tb _) (by decide)) (by first | omega | exact Nat.le_trans (wb _) (by decide) | exact Nat.lt_of_le_of_lt (wb _) (by decide) | exact Nat.le_trans (TB_le tb _) (by decide))) ?_
          refine lv_l2i (v := nI (vS t we d k / vC t we d k)) hx hb dX3_valueOfDay_85 (lN_i (vS t we d k / vC t we d k)) ?_
          exact W.iret (v := nI (vS t we d k / vC t we d k)) hx hb hr (fun zt ht zw => ⟨_, rfl, ((nI_o (vS t we d k / vC t we d k)).trans (congrArg oI (show (vS t we d k / vC t we d k) + 1 = (vD t we ey d) from by (simp only [vD, ← hke]); split <;> first | omega | rfl))), ht⟩) (fun q hq => absurd hq List.not_mem_nil) dX3_valueOfDay_86
        refine lv_iconst (v := (-1)) hx hb dX3_valueOfDay_75 (by decide) ?_
        refine lv_goto (tgt := 86) hx hb dX3_valueOfDay_76 (by decide) ?_
        exact W.iret (v := (-1)) hx hb hr (fun zt ht zw => ⟨_, rfl, (m1_o.trans (congrArg oI (show 0 = (vD t we ey d) from by (simp only [vD, ← hke]); split <;> first | omega | rfl))), ht⟩) (fun q hq => absurd hq List.not_mem_nil) dX3_valueOfDay_86
      refine lv_aload_n hx hb dX3_valueOfDay_18 rfl (lv_at hl 2 rfl) ?_
      refine va_getN (D := G) (own := RX3) (host := "SpotRows") (ref := "SpotRows$Chains") (ci := 0) (v := .ref (a 23)) (C := RX0) (T := TX0) (N := 4) hx hb hts hinX0 hown hK.1 hP 3 rfl rfl 2 (by decide) fn27 (fun _ h9 => h9) rfl dX3_valueOfDay_19 ?_
      refine lv_iload hx hb dX3_valueOfDay_22 (lv_at hl 6 rfl) ?_
      refine ld_oF hx hb hK hP 4 (k := k) rfl (by first | omega | exact Nat.le_trans (wb _) (by decide) | exact Nat.lt_of_le_of_lt (wb _) (by decide) | exact Nat.le_trans (TB_le tb _) (by decide)) (by decide) dX3_valueOfDay_24 ?_
      refine lv_iconst (v := (-1)) hx hb dX3_valueOfDay_25 (by decide) ?_
      refine no_icmp_eq (tgt := 64) hx hb dX3_valueOfDay_26 (by decide) (by first | omega | exact Nat.le_trans (wb _) (by decide) | exact Nat.lt_of_le_of_lt (wb _) (by decide) | exact Nat.le_trans (TB_le tb _) (by decide)) (fun c_26 => ?_) (fun c_26 => ?_)
      · refine lv_iinc (v := nI (k + 1)) (lv' := [(7, .int (nI (k + 1))), (0, .ref (a 6)), (1, .ref (a 2)), (2, .ref (a 5)), (3, .int (nI d)), (4, .long (lN (vS t we d k))), (6, .int (nI (vC t we d k)))]) hx hb dX3_valueOfDay_64 hl (k := 6) rfl (nI_add k 1) (by decide) rfl (fun ls hl => ?_)
        refine lv_goto (tgt := 9) hx hb dX3_valueOfDay_67 (by decide) ?_
        exact ih_9 (k + 1) (by first | rfl | omega | (simp_all; done)) (by omega) ls (lvcv (l := [(0, .ref (a 6)), (1, .ref (a 2)), (2, .ref (a 5)), (3, .int (nI d)), (4, .long (lN (vS t we d k))), (6, .int (nI (vC t we d k))), (7, .int (nI (k + 1)))]) (lv_sub hl [1, 2, 3, 4, 5, 6, 0] rfl) (lvC (lvC (lvC (lvC (lvL (congrArg lN (show (vS t we d k) = (vS t we d (k + 1)) from by first | rfl | (simp only [vS, sm_s]; split <;> first | omega | (simp_all; done) | (simp_all; omega)))) (lvI (congrArg nI (show (vC t we d k) = (vC t we d (k + 1)) from by first | rfl | (simp only [vC, sm_s]; split <;> first | omega | (simp_all; done) | (simp_all; omega)))) (lvC rfl))))))))
      refine lv_aload_n hx hb dX3_valueOfDay_29 rfl (lv_at hl 1 rfl) ?_
      refine lv_iload hx hb dX3_valueOfDay_30 (lv_at hl 6 rfl) ?_
      refine lv_iload_n hx hb dX3_valueOfDay_32 rfl (lv_at hl 3 rfl) ?_
      refine cro_i (va_runV (As := [.int (nI k), .int (nI d)]) (rest := []) ⟨hx, hb, hml, hown, hts⟩ (c_X5_has l G cI cJ (a := a) (ey := nI ey) (le := le) (t := t) (e := k) (d := d) (tb := by first | assumption | omega) (he := by first | assumption | omega) (hd := by first | assumption | omega)) (cwV 2 hts gX3_valueOfDay_X5_has rfl rfl rfl (by decide +kernel) ⟨Nat.le_of_ble_eq_true rfl, Nat.le_of_ble_eq_true rfl⟩) (preV_ro (wc := [oTe a (nI ey) le, aI cI (a 11) 1920 (oF t)]) hK hP [1, 2] rfl 5 1 rfl rfl rfl) rfl rfl hl.1 rfl (lv_room (Nat.le_of_ble_eq_true rfl)) dX3_valueOfDay_33 ⟨Nat.zero_le _, Nat.zero_le _⟩) ?_
      refine nb_if_eq (tgt := 64) hx hb dX3_valueOfDay_36 (by decide) (fun c_36 => ?_) (fun c_36 => ?_)
      · refine lv_iinc (v := nI (k + 1)) (lv' := [(7, .int (nI (k + 1))), (0, .ref (a 6)), (1, .ref (a 2)), (2, .ref (a 5)), (3, .int (nI d)), (4, .long (lN (vS t we d k))), (6, .int (nI (vC t we d k)))]) hx hb dX3_valueOfDay_64 hl (k := 6) rfl (nI_add k 1) (by decide) rfl (fun ls hl => ?_)
        refine lv_goto (tgt := 9) hx hb dX3_valueOfDay_67 (by decide) ?_
        exact ih_9 (k + 1) (by first | rfl | omega | (simp_all; done)) (by omega) ls (lvcv (l := [(0, .ref (a 6)), (1, .ref (a 2)), (2, .ref (a 5)), (3, .int (nI d)), (4, .long (lN (vS t we d k))), (6, .int (nI (vC t we d k))), (7, .int (nI (k + 1)))]) (lv_sub hl [1, 2, 3, 4, 5, 6, 0] rfl) (lvC (lvC (lvC (lvC (lvL (congrArg lN (show (vS t we d k) = (vS t we d (k + 1)) from by first | rfl | (simp only [vS, sm_s]; split <;> first | omega | (simp_all; done) | (simp_all; omega)))) (lvI (congrArg nI (show (vC t we d k) = (vC t we d (k + 1)) from by first | rfl | (simp only [vC, sm_s]; split <;> first | omega | (simp_all; done) | (simp_all; omega)))) (lvC rfl))))))))
      refine lv_lload hx hb dX3_valueOfDay_39 (lv_at hl 4 rfl) ?_
      refine lv_aload_n hx hb dX3_valueOfDay_41 rfl (lv_at hl 1 rfl) ?_
      refine lv_iload hx hb dX3_valueOfDay_42 (lv_at hl 6 rfl) ?_
      refine lv_iload_n hx hb dX3_valueOfDay_44 rfl (lv_at hl 3 rfl) ?_
      refine cro_i (va_runV (As := [.int (nI k), .int (nI d)]) (rest := [.long (lN (vS t we d k))]) ⟨hx, hb, hml, hown, hts⟩ (c_X5_numberOf l G cI cJ (a := a) (ey := nI ey) (le := le) (t := t) (e := k) (d := d) (tb := by first | assumption | omega) (he := by first | assumption | omega) (hd := by first | assumption | omega) (hn := by first | assumption | omega)) (cwV 2 hts gX3_valueOfDay_X5_numberOf rfl rfl rfl (by decide +kernel) ⟨Nat.le_of_ble_eq_true rfl, Nat.le_of_ble_eq_true rfl⟩) (preV_ro (wc := [oTe a (nI ey) le, aI cI (a 11) 1920 (oF t)]) hK hP [1, 2] rfl 5 1 rfl rfl rfl) rfl rfl hl.1 rfl (lv_room (Nat.le_of_ble_eq_true rfl)) dX3_valueOfDay_45 ⟨Nat.zero_le _, Nat.zero_le _⟩) ?_
      refine lv_i2l (v := lN (num t (k * 240 + d))) hx hb dX3_valueOfDay_48 (nI_l (by first | omega | exact Nat.le_trans (wb _) (by decide) | exact Nat.lt_of_le_of_lt (wb _) (by decide) | exact Nat.le_trans (TB_le tb _) (by decide))) ?_
      refine lv_aload_n hx hb dX3_valueOfDay_49 rfl (lv_at hl 2 rfl) ?_
      refine va_getN (D := G) (own := RX3) (host := "SpotRows") (ref := "SpotRows$Chains") (ci := 0) (v := .ref (a 23)) (C := RX0) (T := TX0) (N := 4) hx hb hts hinX0 hown hK.1 hP 3 rfl rfl 2 (by decide) fn27 (fun _ h9 => h9) rfl dX3_valueOfDay_50 ?_
      refine lv_iload hx hb dX3_valueOfDay_53 (lv_at hl 6 rfl) ?_
      refine ld_oF hx hb hK hP 4 (k := k) rfl (by first | omega | exact Nat.le_trans (wb _) (by decide) | exact Nat.lt_of_le_of_lt (wb _) (by decide) | exact Nat.le_trans (TB_le tb _) (by decide)) (by decide) dX3_valueOfDay_55 ?_
      refine toi (oI_pos (by first | assumption | omega)) ?_
      refine lv_i2l (v := lN (we k - 1)) hx hb dX3_valueOfDay_56 (nI_l (by first | omega | exact Nat.le_trans (wb _) (by decide) | exact Nat.lt_of_le_of_lt (wb _) (by decide) | exact Nat.le_trans (TB_le tb _) (by decide))) ?_
      refine lv_lmul hx hb dX3_valueOfDay_57 ?_
      refine tol (lN_mul (num t (k * 240 + d)) (we k - 1)) ?_
      refine lv_ladd hx hb dX3_valueOfDay_58 ?_
      refine tol (lN_add (vS t we d k) (num t (k * 240 + d) * (we k - 1))) ?_
      refine lv_lstore (lv' := [(4, .long (lN (vS t we d k + num t (k * 240 + d) * (we k - 1)))), (0, .ref (a 6)), (1, .ref (a 2)), (2, .ref (a 5)), (3, .int (nI d)), (6, .int (nI (vC t we d k))), (7, .int (nI k))]) hx hb dX3_valueOfDay_59 hl (by decide) rfl (fun ls hl => ?_)
      refine lv_iinc (v := nI (vC t we d k + 1)) (lv' := [(6, .int (nI (vC t we d k + 1))), (4, .long (lN (vS t we d k + num t (k * 240 + d) * (we k - 1)))), (0, .ref (a 6)), (1, .ref (a 2)), (2, .ref (a 5)), (3, .int (nI d)), (7, .int (nI k))]) hx hb dX3_valueOfDay_61 hl (k := 5) rfl (nI_add (vC t we d k) 1) (by decide) rfl (fun ls hl => ?_)
      refine lv_iinc (v := nI (k + 1)) (lv' := [(7, .int (nI (k + 1))), (6, .int (nI (vC t we d k + 1))), (4, .long (lN (vS t we d k + num t (k * 240 + d) * (we k - 1)))), (0, .ref (a 6)), (1, .ref (a 2)), (2, .ref (a 5)), (3, .int (nI d))]) hx hb dX3_valueOfDay_64 hl (k := 6) rfl (nI_add k 1) (by decide) rfl (fun ls hl => ?_)
      refine lv_goto (tgt := 9) hx hb dX3_valueOfDay_67 (by decide) ?_
      exact ih_9 (k + 1) (by first | rfl | omega | (simp_all; done)) (by omega) ls (lvcv (l := [(0, .ref (a 6)), (1, .ref (a 2)), (2, .ref (a 5)), (3, .int (nI d)), (4, .long (lN (vS t we d k + num t (k * 240 + d) * (we k - 1)))), (6, .int (nI (vC t we d k + 1))), (7, .int (nI (k + 1)))]) (lv_sub hl [3, 4, 5, 6, 2, 1, 0] rfl) (lvC (lvC (lvC (lvC (lvL (congrArg lN (show (vS t we d k + num t (k * 240 + d) * (we k - 1)) = (vS t we d (k + 1)) from by first | rfl | (simp only [vS, sm_s]; split <;> first | omega | (simp_all; done) | (simp_all; omega)))) (lvI (congrArg nI (show (vC t we d k + 1) = (vC t we d (k + 1)) from by first | rfl | (simp only [vC, sm_s]; split <;> first | omega | (simp_all; done) | (simp_all; omega)))) (lvC rfl))))))))
  exact lp_9 (ey - 0 + 1) 0 (by first | rfl | omega | (simp_all; done)) (by omega) ls (lvcv (l := [(0, .ref (a 6)), (1, .ref (a 2)), (2, .ref (a 5)), (3, .int (nI d)), (4, .long (lN 0)), (6, .int (nI 0)), (7, .int (nI 0))]) (lv_sub hl [3, 4, 5, 6, 2, 1, 0] rfl) (lvC (lvC (lvC (lvC (lvL (congrArg lN (show 0 = (vS t we d 0) from by first | rfl | (simp only [vS, sm_s]; split <;> first | omega | (simp_all; done) | (simp_all; omega)))) (lvI (congrArg nI (show 0 = (vC t we d 0) from by first | rfl | (simp only [vC, sm_s]; split <;> first | omega | (simp_all; done) | (simp_all; omega)))) (lvC rfl))))))))

set_option maxHeartbeats 400000 in
set_option maxRecDepth 100000 in
theorem c_X3_valueOfMonth (l : Launch) (G : va_G) (cI cJ : ClassId) (a : Nat → Nat) (en : Nat) (ey : Nat) (le : Int32) (t : Nat → Nat) (we : Nat → Nat) (m : Nat) (tb : TB t) (wb : WB we) (hey : ey ≤ 8) (hm : m < 24) (hen : en ≤ 10) : Met l yX3_valueOfMonth wsX3_valueOfMonth ({ frames := 3, cells := 0, slots := 0, locals := 71 }) (roP G cI cJ [.ref (a 6), .ref (a 2), .ref (a 5), .int (nI m)] [oRo a (nI en), oTe a (nI ey) le, aI cI (a 11) 1920 (oF t), oCh a, aI cI (a 23) 8 (oF we)]) (vp_Si (fun r => r = oI (mV t we ey en m))) 0 0 (fun _ => False) := by
  refine Met.ofW (cc := cX3_valueOfMonth) (maxL := 9) (ret := (some .int)) (by decide) rfl ?_
  intro pg ev s mt args below meth cd s₁ B hml hv
  obtain ⟨rfl, hP, hK⟩ := hv
  have hx := B.exec
  have hb := B.bytes
  have hr := B.returns
  have hts := atoms_spec (ws := wsX3_valueOfMonth) B.pre
  have hown : s.vm.findClass RX3 = some mt.cls := findClass_of_methodNamed B.named
  have hlocks := B.notSynchronized
  have hP : va_P G vwCl [oRo a (nI en), oTe a (nI ey) le, aI cI (a 11) 1920 (oF t), oCh a, aI cI (a 23) 8 (oF we)] s.heap := hP
  have hinX3 := (show ∀ w ∈ u_ws RX3 TX3 3, w ∈ wsX3_valueOfMonth by decide +kernel)
  have fl18 := hts (.fieldLink RX3 18 "SpotRows$Row" "enough" "I") (by decide +kernel)
  have hl := lv_entry ([.ref (a 6), .ref (a 2), .ref (a 5), .int (nI m)]) (n := 9) (Nat.le_of_ble_eq_true rfl)
  rw [lg_entry_eq]
  generalize (lg_sl ([.ref (a 6), .ref (a 2), .ref (a 5), .int (nI m)]) ++ List.replicate (9 - (lg_sl ([.ref (a 6), .ref (a 2), .ref (a 5), .int (nI m)])).length) Slot.unset).toArray = ls at hl ⊢
  have hl : lv_has ls 9 [(0, .ref (a 6)), (1, .ref (a 2)), (2, .ref (a 5)), (3, .int (nI m))] := hl
  refine lv_lconst (v := lN 0) hx hb dX3_valueOfMonth_0 (by decide) ?_
  refine lv_lstore (lv' := [(4, .long (lN 0)), (0, .ref (a 6)), (1, .ref (a 2)), (2, .ref (a 5)), (3, .int (nI m))]) hx hb dX3_valueOfMonth_1 hl (by decide) rfl (fun ls hl => ?_)
  refine lv_iconst (v := nI 0) hx hb dX3_valueOfMonth_3 (by decide) ?_
  refine lv_istore (lv' := [(6, .int (nI 0)), (4, .long (lN 0)), (0, .ref (a 6)), (1, .ref (a 2)), (2, .ref (a 5)), (3, .int (nI m))]) hx hb dX3_valueOfMonth_4 hl (by decide) rfl (fun ls hl => ?_)
  refine lv_iconst (v := nI 0) hx hb dX3_valueOfMonth_6 (by decide) ?_
  refine lv_istore (lv' := [(7, .int (nI 0)), (6, .int (nI 0)), (4, .long (lN 0)), (0, .ref (a 6)), (1, .ref (a 2)), (2, .ref (a 5)), (3, .int (nI m))]) hx hb dX3_valueOfMonth_7 hl (by decide) rfl (fun ls hl => ?_)
  have lp_9 : ∀ (nf : Nat) (k : Nat), (k ≤ 10) → 10 - k < nf → ∀ (ls : Array Slot), lv_has ls 9 [(0, .ref (a 6)), (1, .ref (a 2)), (2, .ref (a 5)), (3, .int (nI m)), (4, .long (lN (mS t we ey m k))), (6, .int (nI (mC t we ey m k))), (7, .int (nI k))] → W pg l ev (headSpec wsX3_valueOfMonth ({ frames := 3, cells := 0, slots := 0, locals := 71 })).room s mt ([.ref (a 6), .ref (a 2), .ref (a 5), .int (nI m)] : List Value).toArray below meth cd s.heap [] 0 0 (MQ below (vp_Si (fun r => r = oI (mV t we ey en m))) ([.ref (a 6), .ref (a 2), .ref (a 5), .int (nI m)] : List Value).toArray s 0 0 (fun _ => False)) (F0 mt 9 ls []) := by
    intro nf
    induction nf with
    | zero => intro k hk hfu; exact absurd hfu (Nat.not_lt_zero _)
    | succ nf ih_9 =>
      intro k hk hfu ls hl
      have f1 := mC_le t we ey m k
      have f2 := mS_le tb wb ey m k
      have f3 := vD_le tb wb ey (m * 10 + k)
      refine lv_iload hx hb dX3_valueOfMonth_9 (lv_at hl 6 rfl) ?_
      refine lv_bipush (v := nI 10) hx hb dX3_valueOfMonth_11 (by decide) ?_
      refine nv_icmp_ge (tgt := 54) hx hb dX3_valueOfMonth_13 (by decide) (by first | omega | exact Nat.le_trans (vD_le tb wb _ _) (by decide) | exact Nat.lt_of_le_of_lt (vD_le tb wb _ _) (by decide)) (by first | omega | exact Nat.le_trans (vD_le tb wb _ _) (by decide) | exact Nat.lt_of_le_of_lt (vD_le tb wb _ _) (by decide)) (fun c_13 => ?_) (fun c_13 => ?_)
      · refine lv_iload hx hb dX3_valueOfMonth_54 (lv_at hl 5 rfl) ?_
        refine nv_if_eq (tgt := 68) hx hb dX3_valueOfMonth_56 (by decide) (by first | omega | exact Nat.le_trans (vD_le tb wb _ _) (by decide) | exact Nat.lt_of_le_of_lt (vD_le tb wb _ _) (by decide)) (fun c_56 => ?_) (fun c_56 => ?_)
        · refine lv_iconst (v := (-1)) hx hb dX3_valueOfMonth_68 (by decide) ?_
          refine lv_goto (tgt := 79) hx hb dX3_valueOfMonth_69 (by decide) ?_
          exact W.iret (v := (-1)) hx hb hr (fun zt ht zw => ⟨_, rfl, (m1_o.trans (congrArg oI (show 0 = (mV t we ey en m) from by (have hke : k = 10 := by omega); (simp only [hke] at *); (simp only [mV]); split <;> first | omega | rfl))), ht⟩) (fun q hq => absurd hq List.not_mem_nil) dX3_valueOfMonth_79
        refine lv_iload hx hb dX3_valueOfMonth_59 (lv_at hl 5 rfl) ?_
        refine lv_aload_n hx hb dX3_valueOfMonth_61 rfl (lv_at hl 0 rfl) ?_
        refine va_get (D := G) (own := RX3) (ref := "SpotRows$Row") (ci := 3) (v := .int (nI en)) (C := RX3) (T := TX3) (N := 3) hx hb hts hinX3 hown hK.1 hP 0 rfl rfl 2 (by decide) fl18 (fun _ h9 => h9) rfl dX3_valueOfMonth_62 ?_
        refine nv_icmp_ge (tgt := 72) hx hb dX3_valueOfMonth_65 (by decide) (by first | omega | exact Nat.le_trans (vD_le tb wb _ _) (by decide) | exact Nat.lt_of_le_of_lt (vD_le tb wb _ _) (by decide)) (by first | omega | exact Nat.le_trans (vD_le tb wb _ _) (by decide) | exact Nat.lt_of_le_of_lt (vD_le tb wb _ _) (by decide)) (fun c_65 => ?_) (fun c_65 => ?_)
        · refine lv_lload hx hb dX3_valueOfMonth_72 (lv_at hl 4 rfl) ?_
          refine lv_iload hx hb dX3_valueOfMonth_74 (lv_at hl 5 rfl) ?_
          refine lv_i2l (v := lN (mC t we ey m k)) hx hb dX3_valueOfMonth_76 (nI_l (by first | omega | exact Nat.le_trans (vD_le tb wb _ _) (by decide) | exact Nat.lt_of_le_of_lt (vD_le tb wb _ _) (by decide))) ?_
          refine lv_ldiv hx hb dX3_valueOfMonth_77 (lN_ne0 (by first | omega | exact Nat.le_trans (vD_le tb wb _ _) (by decide) | exact Nat.lt_of_le_of_lt (vD_le tb wb _ _) (by decide)) (by first | omega | exact Nat.le_trans (vD_le tb wb _ _) (by decide) | exact Nat.lt_of_le_of_lt (vD_le tb wb _ _) (by decide))) ?_
          refine tol (pk_lDiv (a := (mS t we ey m k)) (b := (mC t we ey m k)) (by first | omega | exact Nat.le_trans (vD_le tb wb _ _) (by decide) | exact Nat.lt_of_le_of_lt (vD_le tb wb _ _) (by decide)) (by first | omega | exact Nat.le_trans (vD_le tb wb _ _) (by decide) | exact Nat.lt_of_le_of_lt (vD_le tb wb _ _) (by decide)) (by first | omega | exact Nat.le_trans (vD_le tb wb _ _) (by decide) | exact Nat.lt_of_le_of_lt (vD_le tb wb _ _) (by decide))) ?_
          refine lv_l2i (v := nI (mS t we ey m k / mC t we ey m k)) hx hb dX3_valueOfMonth_78 (lN_i (mS t we ey m k / mC t we ey m k)) ?_
          exact W.iret (v := nI (mS t we ey m k / mC t we ey m k)) hx hb hr (fun zt ht zw => ⟨_, rfl, ((nI_o (mS t we ey m k / mC t we ey m k)).trans (congrArg oI (show (mS t we ey m k / mC t we ey m k) + 1 = (mV t we ey en m) from by (have hke : k = 10 := by omega); (simp only [hke] at *); (simp only [mV]); split <;> first | omega | rfl))), ht⟩) (fun q hq => absurd hq List.not_mem_nil) dX3_valueOfMonth_79
        refine lv_iconst (v := (-1)) hx hb dX3_valueOfMonth_68 (by decide) ?_
        refine lv_goto (tgt := 79) hx hb dX3_valueOfMonth_69 (by decide) ?_
        exact W.iret (v := (-1)) hx hb hr (fun zt ht zw => ⟨_, rfl, (m1_o.trans (congrArg oI (show 0 = (mV t we ey en m) from by (have hke : k = 10 := by omega); (simp only [hke] at *); (simp only [mV]); split <;> first | omega | rfl))), ht⟩) (fun q hq => absurd hq List.not_mem_nil) dX3_valueOfMonth_79
      refine lv_aload_n hx hb dX3_valueOfMonth_16 rfl (lv_at hl 0 rfl) ?_
      refine lv_aload_n hx hb dX3_valueOfMonth_17 rfl (lv_at hl 1 rfl) ?_
      refine lv_aload_n hx hb dX3_valueOfMonth_18 rfl (lv_at hl 2 rfl) ?_
      refine lv_iload_n hx hb dX3_valueOfMonth_19 rfl (lv_at hl 3 rfl) ?_
      refine lv_bipush (v := nI 10) hx hb dX3_valueOfMonth_20 (by decide) ?_
      refine lv_imul hx hb dX3_valueOfMonth_22 ?_
      refine toi (pk_mul m 10) ?_
      refine lv_iload hx hb dX3_valueOfMonth_23 (lv_at hl 6 rfl) ?_
      refine lv_iadd hx hb dX3_valueOfMonth_25 ?_
      refine toi (nI_add (m * 10) k) ?_
      refine cro_i (va_runV (As := [.ref (a 2), .ref (a 5), .int (nI (m * 10 + k))]) (rest := []) ⟨hx, hb, hml, hown, hts⟩ (c_X3_valueOfDay l G cI cJ (a := a) (en := nI en) (ey := ey) (le := le) (t := t) (we := we) (d := m * 10 + k) (tb := by first | assumption | omega) (wb := by first | assumption | omega) (hey := by first | assumption | omega) (hd := by first | assumption | omega)) (cwV 3 hts gX3_valueOfMonth_X3_valueOfDay rfl rfl rfl (by decide +kernel) ⟨Nat.le_of_ble_eq_true rfl, Nat.le_of_ble_eq_true rfl⟩) (preV_ro (wc := [oRo a (nI en), oTe a (nI ey) le, aI cI (a 11) 1920 (oF t), oCh a, aI cI (a 23) 8 (oF we)]) hK hP [0, 1, 2, 3, 4] rfl 3 0 rfl rfl rfl) rfl rfl hl.1 rfl (lv_room (Nat.le_of_ble_eq_true rfl)) dX3_valueOfMonth_26 ⟨Nat.zero_le _, Nat.zero_le _⟩) ?_
      refine lv_istore (lv' := [(8, .int (oI (vD t we ey (m * 10 + k)))), (0, .ref (a 6)), (1, .ref (a 2)), (2, .ref (a 5)), (3, .int (nI m)), (4, .long (lN (mS t we ey m k))), (6, .int (nI (mC t we ey m k))), (7, .int (nI k))]) hx hb dX3_valueOfMonth_29 hl (by decide) rfl (fun ls hl => ?_)
      refine lv_iload hx hb dX3_valueOfMonth_31 (lv_at hl 0 rfl) ?_
      refine lv_iconst (v := (-1)) hx hb dX3_valueOfMonth_33 (by decide) ?_
      refine no_icmp_eq (tgt := 48) hx hb dX3_valueOfMonth_34 (by decide) (by first | omega | exact Nat.le_trans (vD_le tb wb _ _) (by decide) | exact Nat.lt_of_le_of_lt (vD_le tb wb _ _) (by decide)) (fun c_34 => ?_) (fun c_34 => ?_)
      · refine lv_iinc (v := nI (k + 1)) (lv' := [(7, .int (nI (k + 1))), (8, .int (oI (vD t we ey (m * 10 + k)))), (0, .ref (a 6)), (1, .ref (a 2)), (2, .ref (a 5)), (3, .int (nI m)), (4, .long (lN (mS t we ey m k))), (6, .int (nI (mC t we ey m k)))]) hx hb dX3_valueOfMonth_48 hl (k := 7) rfl (nI_add k 1) (by decide) rfl (fun ls hl => ?_)
        refine lv_goto (tgt := 9) hx hb dX3_valueOfMonth_51 (by decide) ?_
        exact ih_9 (k + 1) (by first | rfl | omega | (simp_all; done)) (by omega) ls (lvcv (l := [(0, .ref (a 6)), (1, .ref (a 2)), (2, .ref (a 5)), (3, .int (nI m)), (4, .long (lN (mS t we ey m k))), (6, .int (nI (mC t we ey m k))), (7, .int (nI (k + 1)))]) (lv_sub hl [2, 3, 4, 5, 6, 7, 0] rfl) (lvC (lvC (lvC (lvC (lvL (congrArg lN (show (mS t we ey m k) = (mS t we ey m (k + 1)) from by first | rfl | (simp only [mS, sm_s]; omega))) (lvI (congrArg nI (show (mC t we ey m k) = (mC t we ey m (k + 1)) from by first | rfl | (simp only [mC, sm_s]; split <;> first | omega | (simp_all; done) | (simp_all; omega)))) (lvC rfl))))))))
      refine lv_lload hx hb dX3_valueOfMonth_37 (lv_at hl 5 rfl) ?_
      refine lv_iload hx hb dX3_valueOfMonth_39 (lv_at hl 0 rfl) ?_
      refine toi (oI_pos (by first | assumption | omega)) ?_
      refine lv_i2l (v := lN (vD t we ey (m * 10 + k) - 1)) hx hb dX3_valueOfMonth_41 (nI_l (by first | omega | exact Nat.le_trans (vD_le tb wb _ _) (by decide) | exact Nat.lt_of_le_of_lt (vD_le tb wb _ _) (by decide))) ?_
      refine lv_ladd hx hb dX3_valueOfMonth_42 ?_
      refine tol (lN_add (mS t we ey m k) (vD t we ey (m * 10 + k) - 1)) ?_
      refine lv_lstore (lv' := [(4, .long (lN (mS t we ey m k + (vD t we ey (m * 10 + k) - 1)))), (8, .int (oI (vD t we ey (m * 10 + k)))), (0, .ref (a 6)), (1, .ref (a 2)), (2, .ref (a 5)), (3, .int (nI m)), (6, .int (nI (mC t we ey m k))), (7, .int (nI k))]) hx hb dX3_valueOfMonth_43 hl (by decide) rfl (fun ls hl => ?_)
      refine lv_iinc (v := nI (mC t we ey m k + 1)) (lv' := [(6, .int (nI (mC t we ey m k + 1))), (4, .long (lN (mS t we ey m k + (vD t we ey (m * 10 + k) - 1)))), (8, .int (oI (vD t we ey (m * 10 + k)))), (0, .ref (a 6)), (1, .ref (a 2)), (2, .ref (a 5)), (3, .int (nI m)), (7, .int (nI k))]) hx hb dX3_valueOfMonth_45 hl (k := 6) rfl (nI_add (mC t we ey m k) 1) (by decide) rfl (fun ls hl => ?_)
      refine lv_iinc (v := nI (k + 1)) (lv' := [(7, .int (nI (k + 1))), (6, .int (nI (mC t we ey m k + 1))), (4, .long (lN (mS t we ey m k + (vD t we ey (m * 10 + k) - 1)))), (8, .int (oI (vD t we ey (m * 10 + k)))), (0, .ref (a 6)), (1, .ref (a 2)), (2, .ref (a 5)), (3, .int (nI m))]) hx hb dX3_valueOfMonth_48 hl (k := 7) rfl (nI_add k 1) (by decide) rfl (fun ls hl => ?_)
      refine lv_goto (tgt := 9) hx hb dX3_valueOfMonth_51 (by decide) ?_
      exact ih_9 (k + 1) (by first | rfl | omega | (simp_all; done)) (by omega) ls (lvcv (l := [(0, .ref (a 6)), (1, .ref (a 2)), (2, .ref (a 5)), (3, .int (nI m)), (4, .long (lN (mS t we ey m k + (vD t we ey (m * 10 + k) - 1)))), (6, .int (nI (mC t we ey m k + 1))), (7, .int (nI (k + 1)))]) (lv_sub hl [4, 5, 6, 7, 2, 1, 0] rfl) (lvC (lvC (lvC (lvC (lvL (congrArg lN (show (mS t we ey m k + (vD t we ey (m * 10 + k) - 1)) = (mS t we ey m (k + 1)) from by first | rfl | (simp only [mS, sm_s]; omega))) (lvI (congrArg nI (show (mC t we ey m k + 1) = (mC t we ey m (k + 1)) from by first | rfl | (simp only [mC, sm_s]; split <;> first | omega | (simp_all; done) | (simp_all; omega)))) (lvC rfl))))))))
  exact lp_9 (10 - 0 + 1) 0 (by first | rfl | omega | (simp_all; done)) (by omega) ls (lvcv (l := [(0, .ref (a 6)), (1, .ref (a 2)), (2, .ref (a 5)), (3, .int (nI m)), (4, .long (lN 0)), (6, .int (nI 0)), (7, .int (nI 0))]) (lv_sub hl [3, 4, 5, 6, 2, 1, 0] rfl) (lvC (lvC (lvC (lvC (lvL (congrArg lN (show 0 = (mS t we ey m 0) from by first | rfl | (simp only [mS, sm_s]; omega))) (lvI (congrArg nI (show 0 = (mC t we ey m 0) from by first | rfl | (simp only [mC, sm_s]; split <;> first | omega | (simp_all; done) | (simp_all; omega)))) (lvC rfl))))))))

set_option maxHeartbeats 400000 in
set_option maxRecDepth 100000 in
theorem c_X3_reckonMonths (l : Launch) (G : va_G) (cI cJ : ClassId) (a : Nat → Nat) (en : Nat) (ey : Nat) (le : Int32) (t : Nat → Nat) (we : Nat → Nat) (va : Nat → Nat) (tb : TB t) (wb : WB we) (hey : ey ≤ 8) (hen : en ≤ 10) : Met l yX3_reckonMonths wsX3_reckonMonths ({ frames := 4, cells := 0, slots := 0, locals := 99 }) (rwP G cI cJ [.ref (a 6), .ref (a 2), .ref (a 5)] [oRo a (nI en), oTe a (nI ey) le, aI cI (a 11) 1920 (oF t), oCh a, aI cI (a 23) 8 (oF we), aI cI (a 25) 24 (oF va)]) (rwQv G [oRo a (nI en), oTe a (nI ey) le, aI cI (a 11) 1920 (oF t), oCh a, aI cI (a 23) 8 (oF we), aI cI (a 25) 24 (oF va)] (fun (_ : Unit) => True) (fun (_ : Unit) => [oRo a (nI en), oTe a (nI ey) le, aI cI (a 11) 1920 (oF t), oCh a, aI cI (a 23) 8 (oF we), aI cI (a 25) 24 (oF (pfx (mV t we ey en) va 24))])) 0 0 (ads [oRo a (nI en), oTe a (nI ey) le, aI cI (a 11) 1920 (oF t), oCh a, aI cI (a 23) 8 (oF we), aI cI (a 25) 24 (oF va)]) := by
  refine Met.ofW (cc := cX3_reckonMonths) (maxL := 4) (ret := none) (by decide) rfl ?_
  intro pg ev s mt args below meth cd s₁ B hml hv
  obtain ⟨rfl, hP, hD0, hK⟩ := hv
  have hx := B.exec
  have hb := B.bytes
  have hr := B.returns
  have hts := atoms_spec (ws := wsX3_reckonMonths) B.pre
  have hown : s.vm.findClass RX3 = some mt.cls := findClass_of_methodNamed B.named
  have hlocks := B.notSynchronized
  have hD := ads_self hD0
  generalize hAe : ads [oRo a (nI en), oTe a (nI ey) le, aI cI (a 11) 1920 (oF t), oCh a, aI cI (a 23) 8 (oF we), aI cI (a 25) 24 (oF va)] = A at hD ⊢
  have hS : va_S A s.heap s.heap [] := va_S.rf
  have hP : va_P G vwCl [oRo a (nI en), oTe a (nI ey) le, aI cI (a 11) 1920 (oF t), oCh a, aI cI (a 23) 8 (oF we), aI cI (a 25) 24 (oF va)] s.heap := hP
  have hinX3 := (show ∀ w ∈ u_ws RX3 TX3 3, w ∈ wsX3_reckonMonths by decide +kernel)
  have fl9 := hts (.fieldLink RX3 9 "SpotRows$Row" "values" "[I") (by decide +kernel)
  have hl := lv_entry ([.ref (a 6), .ref (a 2), .ref (a 5)]) (n := 4) (Nat.le_of_ble_eq_true rfl)
  rw [lg_entry_eq]
  generalize (lg_sl ([.ref (a 6), .ref (a 2), .ref (a 5)]) ++ List.replicate (4 - (lg_sl ([.ref (a 6), .ref (a 2), .ref (a 5)])).length) Slot.unset).toArray = ls at hl ⊢
  have hl : lv_has ls 4 [(0, .ref (a 6)), (1, .ref (a 2)), (2, .ref (a 5))] := hl
  refine lv_iconst (v := nI 0) hx hb dX3_reckonMonths_0 (by decide) ?_
  refine lv_istore_n (lv' := [(3, .int (nI 0)), (0, .ref (a 6)), (1, .ref (a 2)), (2, .ref (a 5))]) hx hb dX3_reckonMonths_1 rfl hl (by decide) rfl (fun ls hl => ?_)
  have lp_2 : ∀ (nf : Nat) (k : Nat), (k ≤ 24) → 24 - k < nf → ∀ (H : Heap) (locs : List Loc), va_P G vwCl [oRo a (nI en), oTe a (nI ey) le, aI cI (a 11) 1920 (oF t), oCh a, aI cI (a 23) 8 (oF we), aI cI (a 25) 24 (oF (pfx (mV t we ey en) va k))] H → va_D A [oRo a (nI en), oTe a (nI ey) le, aI cI (a 11) 1920 (oF t), oCh a, aI cI (a 23) 8 (oF we), aI cI (a 25) 24 (oF (pfx (mV t we ey en) va k))] → va_S A s.heap H locs → ∀ (ls : Array Slot), lv_has ls 4 [(0, .ref (a 6)), (1, .ref (a 2)), (2, .ref (a 5)), (3, .int (nI k))] → W pg l ev (headSpec wsX3_reckonMonths ({ frames := 4, cells := 0, slots := 0, locals := 99 })).room s mt ([.ref (a 6), .ref (a 2), .ref (a 5)] : List Value).toArray below meth cd H locs 0 0 (MQ below (rwQv G [oRo a (nI en), oTe a (nI ey) le, aI cI (a 11) 1920 (oF t), oCh a, aI cI (a 23) 8 (oF we), aI cI (a 25) 24 (oF va)] (fun (_ : Unit) => True) (fun (_ : Unit) => [oRo a (nI en), oTe a (nI ey) le, aI cI (a 11) 1920 (oF t), oCh a, aI cI (a 23) 8 (oF we), aI cI (a 25) 24 (oF (pfx (mV t we ey en) va 24))])) ([.ref (a 6), .ref (a 2), .ref (a 5)] : List Value).toArray s 0 0 A) (F0 mt 2 ls []) := by
    intro nf
    induction nf with
    | zero => intro k hk hfu; exact absurd hfu (Nat.not_lt_zero _)
    | succ nf ih_2 =>
      intro k hk hfu H locs hP hD hS ls hl
      refine lv_iload_n hx hb dX3_reckonMonths_2 rfl (lv_at hl 3 rfl) ?_
      refine lv_bipush (v := nI 24) hx hb dX3_reckonMonths_3 (by decide) ?_
      refine nv_icmp_ge (tgt := 27) hx hb dX3_reckonMonths_5 (by decide) (by omega) (by omega) (fun c_5 => ?_) (fun c_5 => ?_)
      · have hP : va_P G vwCl [oRo a (nI en), oTe a (nI ey) le, aI cI (a 11) 1920 (oF t), oCh a, aI cI (a 23) 8 (oF we), aI cI (a 25) 24 (oF (pfx (mV t we ey en) va 24))] H := by
          have ew : ([oRo a (nI en), oTe a (nI ey) le, aI cI (a 11) 1920 (oF t), oCh a, aI cI (a 23) 8 (oF we), aI cI (a 25) 24 (oF (pfx (mV t we ey en) va k))] : va_W) = [oRo a (nI en), oTe a (nI ey) le, aI cI (a 11) 1920 (oF t), oCh a, aI cI (a 23) 8 (oF we), aI cI (a 25) 24 (oF (pfx (mV t we ey en) va 24))] := (wvC rfl (wvC rfl (wvC rfl (wvC rfl (wvC rfl (wvC (congrArg (fun z => aI cI (a 25) 24 (oF z)) (show pfx (mV t we ey en) va k = pfx (mV t we ey en) va 24 from by rw [show k = 24 from by omega])) rfl))))))
          rw [← ew]; exact hP
        exact W.vret hx hb hr (fun zt ht zw => ⟨⟨(), rfl, trivial, by show va_P _ _ _ zt.heap; rw [ht]; exact hP⟩, by rw [hAe]; exact hS.F ht⟩) hS.2.2 dX3_reckonMonths_27
      refine lv_aload_n hx hb dX3_reckonMonths_8 rfl (lv_at hl 0 rfl) ?_
      refine va_get (D := G) (own := RX3) (ref := "SpotRows$Row") (ci := 3) (v := .ref (a 25)) (C := RX3) (T := TX3) (N := 3) hx hb hts hinX3 hown hK.1 hP 0 rfl rfl 0 (by decide) fl9 (fun _ h9 => h9) rfl dX3_reckonMonths_9 ?_
      refine lv_iload_n hx hb dX3_reckonMonths_12 rfl (lv_at hl 3 rfl) ?_
      refine lv_aload_n hx hb dX3_reckonMonths_13 rfl (lv_at hl 0 rfl) ?_
      refine lv_aload_n hx hb dX3_reckonMonths_14 rfl (lv_at hl 1 rfl) ?_
      refine lv_aload_n hx hb dX3_reckonMonths_15 rfl (lv_at hl 2 rfl) ?_
      refine lv_iload_n hx hb dX3_reckonMonths_16 rfl (lv_at hl 3 rfl) ?_
      refine cro_i (va_runV (As := [.ref (a 2), .ref (a 5), .int (nI k)]) (rest := [.int (nI k), .ref (a 25)]) ⟨hx, hb, hml, hown, hts⟩ (c_X3_valueOfMonth l G cI cJ (a := a) (en := en) (ey := ey) (le := le) (t := t) (we := we) (m := k) (tb := by first | assumption | omega) (wb := by first | assumption | omega) (hey := by first | assumption | omega) (hm := by first | assumption | omega) (hen := by first | assumption | omega)) (cwV 3 hts gX3_reckonMonths_X3_valueOfMonth rfl rfl rfl (by decide +kernel) ⟨Nat.le_of_ble_eq_true rfl, Nat.le_of_ble_eq_true rfl⟩) (preV_ro (wc := [oRo a (nI en), oTe a (nI ey) le, aI cI (a 11) 1920 (oF t), oCh a, aI cI (a 23) 8 (oF we)]) hK hP [0, 1, 2, 3, 4] rfl 3 0 rfl rfl rfl) rfl rfl hl.1 rfl (lv_room (Nat.le_of_ble_eq_true rfl)) dX3_reckonMonths_17 ⟨Nat.zero_le _, Nat.zero_le _⟩) ?_
      refine st_oF hx hb hK hP hD hS 5 (k := k) rfl (by omega) (by decide) dX3_reckonMonths_20 (fun H locs hP hD hS => ?_)
      have hP : va_P G vwCl [oRo a (nI en), oTe a (nI ey) le, aI cI (a 11) 1920 (oF t), oCh a, aI cI (a 23) 8 (oF we), aI cI (a 25) 24 (oF (upN (pfx (mV t we ey en) va k) k (mV t we ey en k)))] H := hP
      have hD : va_D A [oRo a (nI en), oTe a (nI ey) le, aI cI (a 11) 1920 (oF t), oCh a, aI cI (a 23) 8 (oF we), aI cI (a 25) 24 (oF (upN (pfx (mV t we ey en) va k) k (mV t we ey en k)))] := hD
      refine lv_iinc (v := nI (k + 1)) (lv' := [(3, .int (nI (k + 1))), (0, .ref (a 6)), (1, .ref (a 2)), (2, .ref (a 5))]) hx hb dX3_reckonMonths_21 hl (k := 3) rfl (nI_add k 1) (by decide) rfl (fun ls hl => ?_)
      refine lv_goto (tgt := 2) hx hb dX3_reckonMonths_24 (by decide) ?_
      have hw_2 : ([oRo a (nI en), oTe a (nI ey) le, aI cI (a 11) 1920 (oF t), oCh a, aI cI (a 23) 8 (oF we), aI cI (a 25) 24 (oF (upN (pfx (mV t we ey en) va k) k (mV t we ey en k)))] : va_W) = [oRo a (nI en), oTe a (nI ey) le, aI cI (a 11) 1920 (oF t), oCh a, aI cI (a 23) 8 (oF we), aI cI (a 25) 24 (oF (pfx (mV t we ey en) va (k + 1)))] := (wvC rfl (wvC rfl (wvC rfl (wvC rfl (wvC rfl (wvC (congrArg (fun z => aI cI (a 25) 24 (oF z)) (show upN (pfx (mV t we ey en) va k) k (mV t we ey en k) = pfx (mV t we ey en) va (k + 1) from by exact pfx_s _ _ k)) rfl))))))
      exact ih_2 (k + 1) (by first | rfl | omega | (simp_all; done)) (by omega) H locs (hw_2 ▸ hP) (hw_2 ▸ hD) hS ls (lvcv (l := [(0, .ref (a 6)), (1, .ref (a 2)), (2, .ref (a 5)), (3, .int (nI (k + 1)))]) (lv_sub hl [1, 2, 3, 0] rfl) (lvC (lvC (lvC (lvC rfl)))))
  have hw_2 : ([oRo a (nI en), oTe a (nI ey) le, aI cI (a 11) 1920 (oF t), oCh a, aI cI (a 23) 8 (oF we), aI cI (a 25) 24 (oF va)] : va_W) = [oRo a (nI en), oTe a (nI ey) le, aI cI (a 11) 1920 (oF t), oCh a, aI cI (a 23) 8 (oF we), aI cI (a 25) 24 (oF (pfx (mV t we ey en) va 0))] := (wvC rfl (wvC rfl (wvC rfl (wvC rfl (wvC rfl (wvC (congrArg (fun z => aI cI (a 25) 24 (oF z)) (show va = pfx (mV t we ey en) va 0 from by exact (pfx_0 _ _).symm)) rfl))))))
  exact lp_2 (24 - 0 + 1) 0 (by first | rfl | omega | (simp_all; done)) (by omega) _ _ (hw_2 ▸ hP) (hw_2 ▸ hD) hS ls (lvcv (l := [(0, .ref (a 6)), (1, .ref (a 2)), (2, .ref (a 5)), (3, .int (nI 0))]) (lv_sub hl [1, 2, 3, 0] rfl) (lvC (lvC (lvC (lvC rfl)))))

set_option maxHeartbeats 400000 in
set_option maxRecDepth 100000 in
theorem c_X3_smoothOf (l : Launch) (G : va_G) (cI cJ : ClassId) (a : Nat → Nat) (en : Int32) (va : Nat → Nat) (m : Nat) (w : Nat) (vb : VB va) (hm : m < 24) (hw : 1 ≤ w ∧ w ≤ 7) : Met l yX3_smoothOf wsX3_smoothOf ({ frames := 1, cells := 0, slots := 0, locals := 30 }) (roP G cI cJ [.ref (a 6), .int (nI m), .int (nI w)] [oRo a en, aI cI (a 25) 24 (oF va)]) (vp_Si (fun r => r = oI (smV va m w))) 0 0 (fun _ => False) := by
  refine Met.ofW (cc := cX3_smoothOf) (maxL := 9) (ret := (some .int)) (by decide) rfl ?_
  intro pg ev s mt args below meth cd s₁ B hml hv
  obtain ⟨rfl, hP, hK⟩ := hv
  have hx := B.exec
  have hb := B.bytes
  have hr := B.returns
  have hts := atoms_spec (ws := wsX3_smoothOf) B.pre
  have hown : s.vm.findClass RX3 = some mt.cls := findClass_of_methodNamed B.named
  have hlocks := B.notSynchronized
  have hP : va_P G vwCl [oRo a en, aI cI (a 25) 24 (oF va)] s.heap := hP
  have hinX3 := (show ∀ w ∈ u_ws RX3 TX3 3, w ∈ wsX3_smoothOf by decide +kernel)
  have fl9 := hts (.fieldLink RX3 9 "SpotRows$Row" "values" "[I") (by decide +kernel)
  have hl := lv_entry ([.ref (a 6), .int (nI m), .int (nI w)]) (n := 9) (Nat.le_of_ble_eq_true rfl)
  rw [lg_entry_eq]
  generalize (lg_sl ([.ref (a 6), .int (nI m), .int (nI w)]) ++ List.replicate (9 - (lg_sl ([.ref (a 6), .int (nI m), .int (nI w)])).length) Slot.unset).toArray = ls at hl ⊢
  have hl : lv_has ls 9 [(0, .ref (a 6)), (1, .int (nI m)), (2, .int (nI w))] := hl
  refine lv_aload_n hx hb dX3_smoothOf_0 rfl (lv_at hl 0 rfl) ?_
  refine va_get (D := G) (own := RX3) (ref := "SpotRows$Row") (ci := 3) (v := .ref (a 25)) (C := RX3) (T := TX3) (N := 3) hx hb hts hinX3 hown hK.1 hP 0 rfl rfl 0 (by decide) fl9 (fun _ h9 => h9) rfl dX3_smoothOf_1 ?_
  refine lv_iload_n hx hb dX3_smoothOf_4 rfl (lv_at hl 1 rfl) ?_
  refine ld_oF hx hb hK hP 1 (k := m) rfl (by first | omega | exact Nat.le_trans (vb _) (by decide) | exact Nat.lt_of_le_of_lt (vb _) (by decide)) (by decide) dX3_smoothOf_5 ?_
  refine lv_iconst (v := (-1)) hx hb dX3_smoothOf_6 (by decide) ?_
  refine no_icmp_ne (tgt := 12) hx hb dX3_smoothOf_7 (by decide) (by first | omega | exact Nat.le_trans (vb _) (by decide) | exact Nat.lt_of_le_of_lt (vb _) (by decide)) (fun c_7 => ?_) (fun c_7 => ?_)
  · refine lv_iload_n hx hb dX3_smoothOf_12 rfl (lv_at hl 2 rfl) ?_
    refine lv_iconst (v := nI 1) hx hb dX3_smoothOf_13 (by decide) ?_
    refine lv_isub hx hb dX3_smoothOf_14 ?_
    refine toi (pk_sub (a := w) (b := 1) (by first | omega | exact Nat.le_trans (vb _) (by decide) | exact Nat.lt_of_le_of_lt (vb _) (by decide))) ?_
    refine lv_iconst (v := nI 2) hx hb dX3_smoothOf_15 (by decide) ?_
    refine lv_idiv hx hb dX3_smoothOf_16 (nI_ne0 (by first | omega | exact Nat.le_trans (vb _) (by decide) | exact Nat.lt_of_le_of_lt (vb _) (by decide)) (by first | omega | exact Nat.le_trans (vb _) (by decide) | exact Nat.lt_of_le_of_lt (vb _) (by decide))) ?_
    refine toi (pk_div (a := (w - 1)) (d := 2) (by first | omega | exact Nat.le_trans (vb _) (by decide) | exact Nat.lt_of_le_of_lt (vb _) (by decide)) (by first | omega | exact Nat.le_trans (vb _) (by decide) | exact Nat.lt_of_le_of_lt (vb _) (by decide)) (by first | omega | exact Nat.le_trans (vb _) (by decide) | exact Nat.lt_of_le_of_lt (vb _) (by decide))) ?_
    refine lv_istore_n (lv' := [(3, .int (nI ((w - 1) / 2))), (0, .ref (a 6)), (1, .int (nI m)), (2, .int (nI w))]) hx hb dX3_smoothOf_17 rfl hl (by decide) rfl (fun ls hl => ?_)
    refine lv_iload_n hx hb dX3_smoothOf_18 rfl (lv_at hl 2 rfl) ?_
    refine lv_iload_n hx hb dX3_smoothOf_19 rfl (lv_at hl 0 rfl) ?_
    refine lv_iadd hx hb dX3_smoothOf_20 ?_
    refine toi (nI_add m ((w - 1) / 2)) ?_
    refine lv_bipush (v := nI 23) hx hb dX3_smoothOf_21 (by decide) ?_
    refine va_mmin hx hb (hml.trans hl.1.symm) (own := RX3) hown (hts (.methodLink RX3 47 Lib.Math.min.name) (by decide +kernel)) (hts (.static Lib.Math.min.name) (by decide +kernel)) (hts (.initialized "java/lang/Math") (by decide +kernel)) (hts (.code Lib.Math.min.name Lib.Math.min.code 2 (some .int)) (by decide +kernel)) (Nat.le_of_ble_eq_true rfl) (Nat.le_of_ble_eq_true rfl) (Nat.zero_le _) (Nat.zero_le _) dX3_smoothOf_23 ?_
    refine toi (minI (by first | omega | exact Nat.le_trans (vb _) (by decide) | exact Nat.lt_of_le_of_lt (vb _) (by decide)) (by first | omega | exact Nat.le_trans (vb _) (by decide) | exact Nat.lt_of_le_of_lt (vb _) (by decide))) ?_
    refine lv_istore (lv' := [(4, .int (nI (min (m + (w - 1) / 2) 23))), (3, .int (nI ((w - 1) / 2))), (0, .ref (a 6)), (1, .int (nI m)), (2, .int (nI w))]) hx hb dX3_smoothOf_26 hl (by decide) rfl (fun ls hl => ?_)
    refine lv_lconst (v := lN 0) hx hb dX3_smoothOf_28 (by decide) ?_
    refine lv_lstore (lv' := [(5, .long (lN 0)), (4, .int (nI (min (m + (w - 1) / 2) 23))), (3, .int (nI ((w - 1) / 2))), (0, .ref (a 6)), (1, .int (nI m)), (2, .int (nI w))]) hx hb dX3_smoothOf_29 hl (by decide) rfl (fun ls hl => ?_)
    refine lv_iconst (v := nI 0) hx hb dX3_smoothOf_31 (by decide) ?_
    refine lv_istore (lv' := [(7, .int (nI 0)), (5, .long (lN 0)), (4, .int (nI (min (m + (w - 1) / 2) 23))), (3, .int (nI ((w - 1) / 2))), (0, .ref (a 6)), (1, .int (nI m)), (2, .int (nI w))]) hx hb dX3_smoothOf_32 hl (by decide) rfl (fun ls hl => ?_)
    refine lv_iload_n hx hb dX3_smoothOf_34 rfl (lv_at hl 5 rfl) ?_
    refine lv_iload_n hx hb dX3_smoothOf_35 rfl (lv_at hl 3 rfl) ?_
    refine lv_isub hx hb dX3_smoothOf_36 ?_
    refine lv_iconst (v := nI 0) hx hb dX3_smoothOf_37 (by decide) ?_
    refine va_mmax hx hb (hml.trans hl.1.symm) (own := RX3) hown (hts (.methodLink RX3 52 Lib.Math.max.name) (by decide +kernel)) (hts (.static Lib.Math.max.name) (by decide +kernel)) (hts (.initialized "java/lang/Math") (by decide +kernel)) (hts (.code Lib.Math.max.name Lib.Math.max.code 2 (some .int)) (by decide +kernel)) (Nat.le_of_ble_eq_true rfl) (Nat.le_of_ble_eq_true rfl) (Nat.zero_le _) (Nat.zero_le _) dX3_smoothOf_38 ?_
    refine toi (show (if (nI m) - (nI ((w - 1) / 2)) < nI 0 then nI 0 else (nI m) - (nI ((w - 1) / 2))) = (nI (m - (w - 1) / 2)) from mx0 (by omega) (by omega)) ?_
    refine lv_istore (lv' := [(8, .int (nI (m - (w - 1) / 2))), (7, .int (nI 0)), (5, .long (lN 0)), (4, .int (nI (min (m + (w - 1) / 2) 23))), (3, .int (nI ((w - 1) / 2))), (0, .ref (a 6)), (1, .int (nI m)), (2, .int (nI w))]) hx hb dX3_smoothOf_41 hl (by decide) rfl (fun ls hl => ?_)
    have lp_43 : ∀ (nf : Nat) (k : Nat), (m - (w - 1) / 2 + k ≤ min (m + (w - 1) / 2) 23 + 1) → min (m + (w - 1) / 2) 23 + 1 - (m - (w - 1) / 2 + k) < nf → ∀ (ls : Array Slot), lv_has ls 9 [(0, .ref (a 6)), (1, .int (nI m)), (2, .int (nI w)), (3, .int (nI ((w - 1) / 2))), (4, .int (nI (min (m + (w - 1) / 2) 23))), (5, .long (lN (sS va (m - (w - 1) / 2) k))), (7, .int (nI (sC va (m - (w - 1) / 2) k))), (8, .int (nI (m - (w - 1) / 2 + k)))] → W pg l ev (headSpec wsX3_smoothOf ({ frames := 1, cells := 0, slots := 0, locals := 30 })).room s mt ([.ref (a 6), .int (nI m), .int (nI w)] : List Value).toArray below meth cd s.heap [] 0 0 (MQ below (vp_Si (fun r => r = oI (smV va m w))) ([.ref (a 6), .int (nI m), .int (nI w)] : List Value).toArray s 0 0 (fun _ => False)) (F0 mt 43 ls []) := by
      intro nf
      induction nf with
      | zero => intro k hk hfu; exact absurd hfu (Nat.not_lt_zero _)
      | succ nf ih_43 =>
        intro k hk hfu ls hl
        have f1 := sC_le va (m - (w - 1) / 2) k
        have f2 := sS_le vb (m - (w - 1) / 2) k
        have f3 := vb (m - (w - 1) / 2 + k)
        refine lv_iload hx hb dX3_smoothOf_43 (lv_at hl 7 rfl) ?_
        refine lv_iload hx hb dX3_smoothOf_45 (lv_at hl 4 rfl) ?_
        refine nv_icmp_gt (tgt := 83) hx hb dX3_smoothOf_47 (by decide) (by first | omega | exact Nat.le_trans (vb _) (by decide) | exact Nat.lt_of_le_of_lt (vb _) (by decide)) (by first | omega | exact Nat.le_trans (vb _) (by decide) | exact Nat.lt_of_le_of_lt (vb _) (by decide)) (fun c_47 => ?_) (fun c_47 => ?_)
        · refine lv_iload hx hb dX3_smoothOf_83 (lv_at hl 6 rfl) ?_
          refine nv_if_ne (tgt := 92) hx hb dX3_smoothOf_85 (by decide) (by first | omega | exact Nat.le_trans (vb _) (by decide) | exact Nat.lt_of_le_of_lt (vb _) (by decide)) (fun c_85 => ?_) (fun c_85 => ?_)
          · refine lv_lload hx hb dX3_smoothOf_92 (lv_at hl 5 rfl) ?_
            refine lv_iload hx hb dX3_smoothOf_94 (lv_at hl 6 rfl) ?_
            refine lv_i2l (v := lN (sC va (m - (w - 1) / 2) k)) hx hb dX3_smoothOf_96 (nI_l (by first | omega | exact Nat.le_trans (vb _) (by decide) | exact Nat.lt_of_le_of_lt (vb _) (by decide))) ?_
            refine lv_ldiv hx hb dX3_smoothOf_97 (lN_ne0 (by first | omega | exact Nat.le_trans (vb _) (by decide) | exact Nat.lt_of_le_of_lt (vb _) (by decide)) (by first | omega | exact Nat.le_trans (vb _) (by decide) | exact Nat.lt_of_le_of_lt (vb _) (by decide))) ?_
            refine tol (pk_lDiv (a := (sS va (m - (w - 1) / 2) k)) (b := (sC va (m - (w - 1) / 2) k)) (by first | omega | exact Nat.le_trans (vb _) (by decide) | exact Nat.lt_of_le_of_lt (vb _) (by decide)) (by first | omega | exact Nat.le_trans (vb _) (by decide) | exact Nat.lt_of_le_of_lt (vb _) (by decide)) (by first | omega | exact Nat.le_trans (vb _) (by decide) | exact Nat.lt_of_le_of_lt (vb _) (by decide))) ?_
            refine lv_l2i (v := nI (sS va (m - (w - 1) / 2) k / sC va (m - (w - 1) / 2) k)) hx hb dX3_smoothOf_98 (lN_i (sS va (m - (w - 1) / 2) k / sC va (m - (w - 1) / 2) k)) ?_
            exact W.iret (v := nI (sS va (m - (w - 1) / 2) k / sC va (m - (w - 1) / 2) k)) hx hb hr (fun zt ht zw => ⟨_, rfl, ((nI_o (sS va (m - (w - 1) / 2) k / sC va (m - (w - 1) / 2) k)).trans (congrArg oI (show (sS va (m - (w - 1) / 2) k / sC va (m - (w - 1) / 2) k) + 1 = (smV va m w) from by have hke : k = min (m + (w - 1) / 2) 23 + 1 - (m - (w - 1) / 2) := (by omega); (simp only [smV, ← hke]); split <;> first | omega | rfl))), ht⟩) (fun q hq => absurd hq List.not_mem_nil) dX3_smoothOf_99
          refine lv_iconst (v := (-1)) hx hb dX3_smoothOf_88 (by decide) ?_
          refine lv_goto (tgt := 99) hx hb dX3_smoothOf_89 (by decide) ?_
          exact W.iret (v := (-1)) hx hb hr (fun zt ht zw => ⟨_, rfl, (m1_o.trans (congrArg oI (show 0 = (smV va m w) from by have hke : k = min (m + (w - 1) / 2) 23 + 1 - (m - (w - 1) / 2) := (by omega); (simp only [smV, ← hke]); split <;> first | omega | rfl))), ht⟩) (fun q hq => absurd hq List.not_mem_nil) dX3_smoothOf_99
        refine lv_aload_n hx hb dX3_smoothOf_50 rfl (lv_at hl 0 rfl) ?_
        refine va_get (D := G) (own := RX3) (ref := "SpotRows$Row") (ci := 3) (v := .ref (a 25)) (C := RX3) (T := TX3) (N := 3) hx hb hts hinX3 hown hK.1 hP 0 rfl rfl 0 (by decide) fl9 (fun _ h9 => h9) rfl dX3_smoothOf_51 ?_
        refine lv_iload hx hb dX3_smoothOf_54 (lv_at hl 7 rfl) ?_
        refine ld_oF hx hb hK hP 1 (k := m - (w - 1) / 2 + k) rfl (by first | omega | exact Nat.le_trans (vb _) (by decide) | exact Nat.lt_of_le_of_lt (vb _) (by decide)) (by decide) dX3_smoothOf_56 ?_
        refine lv_iconst (v := (-1)) hx hb dX3_smoothOf_57 (by decide) ?_
        refine no_icmp_eq (tgt := 77) hx hb dX3_smoothOf_58 (by decide) (by first | omega | exact Nat.le_trans (vb _) (by decide) | exact Nat.lt_of_le_of_lt (vb _) (by decide)) (fun c_58 => ?_) (fun c_58 => ?_)
        · refine lv_iinc (v := nI (m - (w - 1) / 2 + k + 1)) (lv' := [(8, .int (nI (m - (w - 1) / 2 + k + 1))), (0, .ref (a 6)), (1, .int (nI m)), (2, .int (nI w)), (3, .int (nI ((w - 1) / 2))), (4, .int (nI (min (m + (w - 1) / 2) 23))), (5, .long (lN (sS va (m - (w - 1) / 2) k))), (7, .int (nI (sC va (m - (w - 1) / 2) k)))]) hx hb dX3_smoothOf_77 hl (k := 7) rfl (nI_add (m - (w - 1) / 2 + k) 1) (by decide) rfl (fun ls hl => ?_)
          refine lv_goto (tgt := 43) hx hb dX3_smoothOf_80 (by decide) ?_
          exact ih_43 (k + 1) (by first | rfl | omega | (simp_all; done)) (by omega) ls (lvcv (l := [(0, .ref (a 6)), (1, .int (nI m)), (2, .int (nI w)), (3, .int (nI ((w - 1) / 2))), (4, .int (nI (min (m + (w - 1) / 2) 23))), (5, .long (lN (sS va (m - (w - 1) / 2) k))), (7, .int (nI (sC va (m - (w - 1) / 2) k))), (8, .int (nI (m - (w - 1) / 2 + k + 1)))]) (lv_sub hl [1, 2, 3, 4, 5, 6, 7, 0] rfl) (lvC (lvC (lvC (lvC (lvC (lvL (congrArg lN (show (sS va (m - (w - 1) / 2) k) = (sS va (m - (w - 1) / 2) (k + 1)) from by first | rfl | (simp only [sS, sm_s]; omega))) (lvI (congrArg nI (show (sC va (m - (w - 1) / 2) k) = (sC va (m - (w - 1) / 2) (k + 1)) from by first | rfl | (simp only [sC, sm_s]; split <;> first | omega | (simp_all; done) | (simp_all; omega)))) (lvI (congrArg nI (show (m - (w - 1) / 2 + k + 1) = (m - (w - 1) / 2 + (k + 1)) from by omega)) rfl)))))))))
        refine lv_lload hx hb dX3_smoothOf_61 (lv_at hl 5 rfl) ?_
        refine lv_aload_n hx hb dX3_smoothOf_63 rfl (lv_at hl 0 rfl) ?_
        refine va_get (D := G) (own := RX3) (ref := "SpotRows$Row") (ci := 3) (v := .ref (a 25)) (C := RX3) (T := TX3) (N := 3) hx hb hts hinX3 hown hK.1 hP 0 rfl rfl 0 (by decide) fl9 (fun _ h9 => h9) rfl dX3_smoothOf_64 ?_
        refine lv_iload hx hb dX3_smoothOf_67 (lv_at hl 7 rfl) ?_
        refine ld_oF hx hb hK hP 1 (k := m - (w - 1) / 2 + k) rfl (by first | omega | exact Nat.le_trans (vb _) (by decide) | exact Nat.lt_of_le_of_lt (vb _) (by decide)) (by decide) dX3_smoothOf_69 ?_
        refine toi (oI_pos (by first | assumption | omega)) ?_
        refine lv_i2l (v := lN (va (m - (w - 1) / 2 + k) - 1)) hx hb dX3_smoothOf_70 (nI_l (by first | omega | exact Nat.le_trans (vb _) (by decide) | exact Nat.lt_of_le_of_lt (vb _) (by decide))) ?_
        refine lv_ladd hx hb dX3_smoothOf_71 ?_
        refine tol (lN_add (sS va (m - (w - 1) / 2) k) (va (m - (w - 1) / 2 + k) - 1)) ?_
        refine lv_lstore (lv' := [(5, .long (lN (sS va (m - (w - 1) / 2) k + (va (m - (w - 1) / 2 + k) - 1)))), (0, .ref (a 6)), (1, .int (nI m)), (2, .int (nI w)), (3, .int (nI ((w - 1) / 2))), (4, .int (nI (min (m + (w - 1) / 2) 23))), (7, .int (nI (sC va (m - (w - 1) / 2) k))), (8, .int (nI (m - (w - 1) / 2 + k)))]) hx hb dX3_smoothOf_72 hl (by decide) rfl (fun ls hl => ?_)
        refine lv_iinc (v := nI (sC va (m - (w - 1) / 2) k + 1)) (lv' := [(7, .int (nI (sC va (m - (w - 1) / 2) k + 1))), (5, .long (lN (sS va (m - (w - 1) / 2) k + (va (m - (w - 1) / 2 + k) - 1)))), (0, .ref (a 6)), (1, .int (nI m)), (2, .int (nI w)), (3, .int (nI ((w - 1) / 2))), (4, .int (nI (min (m + (w - 1) / 2) 23))), (8, .int (nI (m - (w - 1) / 2 + k)))]) hx hb dX3_smoothOf_74 hl (k := 6) rfl (nI_add (sC va (m - (w - 1) / 2) k) 1) (by decide) rfl (fun ls hl => ?_)
        refine lv_iinc (v := nI (m - (w - 1) / 2 + k + 1)) (lv' := [(8, .int (nI (m - (w - 1) / 2 + k + 1))), (7, .int (nI (sC va (m - (w - 1) / 2) k + 1))), (5, .long (lN (sS va (m - (w - 1) / 2) k + (va (m - (w - 1) / 2 + k) - 1)))), (0, .ref (a 6)), (1, .int (nI m)), (2, .int (nI w)), (3, .int (nI ((w - 1) / 2))), (4, .int (nI (min (m + (w - 1) / 2) 23)))]) hx hb dX3_smoothOf_77 hl (k := 7) rfl (nI_add (m - (w - 1) / 2 + k) 1) (by decide) rfl (fun ls hl => ?_)
        refine lv_goto (tgt := 43) hx hb dX3_smoothOf_80 (by decide) ?_
        exact ih_43 (k + 1) (by first | rfl | omega | (simp_all; done)) (by omega) ls (lvcv (l := [(0, .ref (a 6)), (1, .int (nI m)), (2, .int (nI w)), (3, .int (nI ((w - 1) / 2))), (4, .int (nI (min (m + (w - 1) / 2) 23))), (5, .long (lN (sS va (m - (w - 1) / 2) k + (va (m - (w - 1) / 2 + k) - 1)))), (7, .int (nI (sC va (m - (w - 1) / 2) k + 1))), (8, .int (nI (m - (w - 1) / 2 + k + 1)))]) (lv_sub hl [3, 4, 5, 6, 7, 2, 1, 0] rfl) (lvC (lvC (lvC (lvC (lvC (lvL (congrArg lN (show (sS va (m - (w - 1) / 2) k + (va (m - (w - 1) / 2 + k) - 1)) = (sS va (m - (w - 1) / 2) (k + 1)) from by first | rfl | (simp only [sS, sm_s]; omega))) (lvI (congrArg nI (show (sC va (m - (w - 1) / 2) k + 1) = (sC va (m - (w - 1) / 2) (k + 1)) from by first | rfl | (simp only [sC, sm_s]; split <;> first | omega | (simp_all; done) | (simp_all; omega)))) (lvI (congrArg nI (show (m - (w - 1) / 2 + k + 1) = (m - (w - 1) / 2 + (k + 1)) from by omega)) rfl)))))))))
    exact lp_43 (min (m + (w - 1) / 2) 23 + 1 - (m - (w - 1) / 2 + 0) + 1) 0 (by first | rfl | omega | (simp_all; done)) (by omega) ls (lvcv (l := [(0, .ref (a 6)), (1, .int (nI m)), (2, .int (nI w)), (3, .int (nI ((w - 1) / 2))), (4, .int (nI (min (m + (w - 1) / 2) 23))), (5, .long (lN 0)), (7, .int (nI 0)), (8, .int (nI (m - (w - 1) / 2)))]) (lv_sub hl [5, 6, 7, 4, 3, 2, 1, 0] rfl) (lvC (lvC (lvC (lvC (lvC (lvL (congrArg lN (show 0 = (sS va (m - (w - 1) / 2) 0) from by first | rfl | (simp only [sS, sm_s]; omega))) (lvI (congrArg nI (show 0 = (sC va (m - (w - 1) / 2) 0) from by first | rfl | (simp only [sC, sm_s]; split <;> first | omega | (simp_all; done) | (simp_all; omega)))) (lvI (congrArg nI (show (m - (w - 1) / 2) = (m - (w - 1) / 2 + 0) from by omega)) rfl)))))))))
  refine lv_iconst (v := (-1)) hx hb dX3_smoothOf_10 (by decide) ?_
  exact W.iret (v := (-1)) hx hb hr (fun zt ht zw => ⟨_, rfl, (m1_o.trans (congrArg oI (show 0 = (smV va m w) from by (simp only [smV]); rw [if_pos (Or.inl c_7)]))), ht⟩) (fun q hq => absurd hq List.not_mem_nil) dX3_smoothOf_11

set_option maxHeartbeats 400000 in
set_option maxRecDepth 100000 in
theorem c_X3_reckonSmooths (l : Launch) (G : va_G) (cI cJ : ClassId) (a : Nat → Nat) (en : Int32) (va : Nat → Nat) (sv : Nat → Nat) (w : Nat) (vb : VB va) (hw : 1 ≤ w ∧ w ≤ 7) : Met l yX3_reckonSmooths wsX3_reckonSmooths ({ frames := 2, cells := 0, slots := 0, locals := 58 }) (rwP G cI cJ [.ref (a 6), .int (nI w)] [oRo a en, aI cI (a 25) 24 (oF va), aI cI (a 26) 24 (oF sv)]) (rwQv G [oRo a en, aI cI (a 25) 24 (oF va), aI cI (a 26) 24 (oF sv)] (fun (_ : Unit) => True) (fun (_ : Unit) => [oRo a en, aI cI (a 25) 24 (oF va), aI cI (a 26) 24 (oF (pfx (fun i => smV va i w) sv 24))])) 0 0 (ads [oRo a en, aI cI (a 25) 24 (oF va), aI cI (a 26) 24 (oF sv)]) := by
  refine Met.ofW (cc := cX3_reckonSmooths) (maxL := 3) (ret := none) (by decide) rfl ?_
  intro pg ev s mt args below meth cd s₁ B hml hv
  obtain ⟨rfl, hP, hD0, hK⟩ := hv
  have hx := B.exec
  have hb := B.bytes
  have hr := B.returns
  have hts := atoms_spec (ws := wsX3_reckonSmooths) B.pre
  have hown : s.vm.findClass RX3 = some mt.cls := findClass_of_methodNamed B.named
  have hlocks := B.notSynchronized
  have hD := ads_self hD0
  generalize hAe : ads [oRo a en, aI cI (a 25) 24 (oF va), aI cI (a 26) 24 (oF sv)] = A at hD ⊢
  have hS : va_S A s.heap s.heap [] := va_S.rf
  have hP : va_P G vwCl [oRo a en, aI cI (a 25) 24 (oF va), aI cI (a 26) 24 (oF sv)] s.heap := hP
  have hinX3 := (show ∀ w ∈ u_ws RX3 TX3 3, w ∈ wsX3_reckonSmooths by decide +kernel)
  have fl15 := hts (.fieldLink RX3 15 "SpotRows$Row" "smooths" "[I") (by decide +kernel)
  have hl := lv_entry ([.ref (a 6), .int (nI w)]) (n := 3) (Nat.le_of_ble_eq_true rfl)
  rw [lg_entry_eq]
  generalize (lg_sl ([.ref (a 6), .int (nI w)]) ++ List.replicate (3 - (lg_sl ([.ref (a 6), .int (nI w)])).length) Slot.unset).toArray = ls at hl ⊢
  have hl : lv_has ls 3 [(0, .ref (a 6)), (1, .int (nI w))] := hl
  refine lv_iconst (v := nI 0) hx hb dX3_reckonSmooths_0 (by decide) ?_
  refine lv_istore_n (lv' := [(2, .int (nI 0)), (0, .ref (a 6)), (1, .int (nI w))]) hx hb dX3_reckonSmooths_1 rfl hl (by decide) rfl (fun ls hl => ?_)
  have lp_2 : ∀ (nf : Nat) (k : Nat), (k ≤ 24) → 24 - k < nf → ∀ (H : Heap) (locs : List Loc), va_P G vwCl [oRo a en, aI cI (a 25) 24 (oF va), aI cI (a 26) 24 (oF (pfx (fun i => smV va i w) sv k))] H → va_D A [oRo a en, aI cI (a 25) 24 (oF va), aI cI (a 26) 24 (oF (pfx (fun i => smV va i w) sv k))] → va_S A s.heap H locs → ∀ (ls : Array Slot), lv_has ls 3 [(0, .ref (a 6)), (1, .int (nI w)), (2, .int (nI k))] → W pg l ev (headSpec wsX3_reckonSmooths ({ frames := 2, cells := 0, slots := 0, locals := 58 })).room s mt ([.ref (a 6), .int (nI w)] : List Value).toArray below meth cd H locs 0 0 (MQ below (rwQv G [oRo a en, aI cI (a 25) 24 (oF va), aI cI (a 26) 24 (oF sv)] (fun (_ : Unit) => True) (fun (_ : Unit) => [oRo a en, aI cI (a 25) 24 (oF va), aI cI (a 26) 24 (oF (pfx (fun i => smV va i w) sv 24))])) ([.ref (a 6), .int (nI w)] : List Value).toArray s 0 0 A) (F0 mt 2 ls []) := by
    intro nf
    induction nf with
    | zero => intro k hk hfu; exact absurd hfu (Nat.not_lt_zero _)
    | succ nf ih_2 =>
      intro k hk hfu H locs hP hD hS ls hl
      refine lv_iload_n hx hb dX3_reckonSmooths_2 rfl (lv_at hl 2 rfl) ?_
      refine lv_bipush (v := nI 24) hx hb dX3_reckonSmooths_3 (by decide) ?_
      refine nv_icmp_ge (tgt := 26) hx hb dX3_reckonSmooths_5 (by decide) (by omega) (by omega) (fun c_5 => ?_) (fun c_5 => ?_)
      · have hP : va_P G vwCl [oRo a en, aI cI (a 25) 24 (oF va), aI cI (a 26) 24 (oF (pfx (fun i => smV va i w) sv 24))] H := by
          have ew : ([oRo a en, aI cI (a 25) 24 (oF va), aI cI (a 26) 24 (oF (pfx (fun i => smV va i w) sv k))] : va_W) = [oRo a en, aI cI (a 25) 24 (oF va), aI cI (a 26) 24 (oF (pfx (fun i => smV va i w) sv 24))] := (wvC rfl (wvC rfl (wvC (congrArg (fun z => aI cI (a 26) 24 (oF z)) (show pfx (fun i => smV va i w) sv k = pfx (fun i => smV va i w) sv 24 from by rw [show k = 24 from by omega])) rfl)))
          rw [← ew]; exact hP
        exact W.vret hx hb hr (fun zt ht zw => ⟨⟨(), rfl, trivial, by show va_P _ _ _ zt.heap; rw [ht]; exact hP⟩, by rw [hAe]; exact hS.F ht⟩) hS.2.2 dX3_reckonSmooths_26
      refine lv_aload_n hx hb dX3_reckonSmooths_8 rfl (lv_at hl 0 rfl) ?_
      refine va_get (D := G) (own := RX3) (ref := "SpotRows$Row") (ci := 3) (v := .ref (a 26)) (C := RX3) (T := TX3) (N := 3) hx hb hts hinX3 hown hK.1 hP 0 rfl rfl 1 (by decide) fl15 (fun _ h9 => h9) rfl dX3_reckonSmooths_9 ?_
      refine lv_iload_n hx hb dX3_reckonSmooths_12 rfl (lv_at hl 2 rfl) ?_
      refine lv_aload_n hx hb dX3_reckonSmooths_13 rfl (lv_at hl 0 rfl) ?_
      refine lv_iload_n hx hb dX3_reckonSmooths_14 rfl (lv_at hl 2 rfl) ?_
      refine lv_iload_n hx hb dX3_reckonSmooths_15 rfl (lv_at hl 1 rfl) ?_
      refine cro_i (va_runV (As := [.int (nI k), .int (nI w)]) (rest := [.int (nI k), .ref (a 26)]) ⟨hx, hb, hml, hown, hts⟩ (c_X3_smoothOf l G cI cJ (a := a) (en := en) (va := va) (m := k) (w := w) (vb := by first | assumption | omega) (hm := by first | assumption | omega) (hw := by first | assumption | omega)) (cwV 2 hts gX3_reckonSmooths_X3_smoothOf rfl rfl rfl (by decide +kernel) ⟨Nat.le_of_ble_eq_true rfl, Nat.le_of_ble_eq_true rfl⟩) (preV_ro (wc := [oRo a en, aI cI (a 25) 24 (oF va)]) hK hP [0, 1] rfl 3 0 rfl rfl rfl) rfl rfl hl.1 rfl (lv_room (Nat.le_of_ble_eq_true rfl)) dX3_reckonSmooths_16 ⟨Nat.zero_le _, Nat.zero_le _⟩) ?_
      refine st_oF hx hb hK hP hD hS 2 (k := k) rfl (by omega) (by decide) dX3_reckonSmooths_19 (fun H locs hP hD hS => ?_)
      have hP : va_P G vwCl [oRo a en, aI cI (a 25) 24 (oF va), aI cI (a 26) 24 (oF (upN (pfx (fun i => smV va i w) sv k) k (smV va k w)))] H := hP
      have hD : va_D A [oRo a en, aI cI (a 25) 24 (oF va), aI cI (a 26) 24 (oF (upN (pfx (fun i => smV va i w) sv k) k (smV va k w)))] := hD
      refine lv_iinc (v := nI (k + 1)) (lv' := [(2, .int (nI (k + 1))), (0, .ref (a 6)), (1, .int (nI w))]) hx hb dX3_reckonSmooths_20 hl (k := 2) rfl (nI_add k 1) (by decide) rfl (fun ls hl => ?_)
      refine lv_goto (tgt := 2) hx hb dX3_reckonSmooths_23 (by decide) ?_
      have hw_2 : ([oRo a en, aI cI (a 25) 24 (oF va), aI cI (a 26) 24 (oF (upN (pfx (fun i => smV va i w) sv k) k (smV va k w)))] : va_W) = [oRo a en, aI cI (a 25) 24 (oF va), aI cI (a 26) 24 (oF (pfx (fun i => smV va i w) sv (k + 1)))] := (wvC rfl (wvC rfl (wvC (congrArg (fun z => aI cI (a 26) 24 (oF z)) (show upN (pfx (fun i => smV va i w) sv k) k (smV va k w) = pfx (fun i => smV va i w) sv (k + 1) from by exact pfx_s (fun i => smV va i w) _ k)) rfl)))
      exact ih_2 (k + 1) (by first | rfl | omega | (simp_all; done)) (by omega) H locs (hw_2 ▸ hP) (hw_2 ▸ hD) hS ls (lvcv (l := [(0, .ref (a 6)), (1, .int (nI w)), (2, .int (nI (k + 1)))]) (lv_sub hl [1, 2, 0] rfl) (lvC (lvC (lvC rfl))))
  have hw_2 : ([oRo a en, aI cI (a 25) 24 (oF va), aI cI (a 26) 24 (oF sv)] : va_W) = [oRo a en, aI cI (a 25) 24 (oF va), aI cI (a 26) 24 (oF (pfx (fun i => smV va i w) sv 0))] := (wvC rfl (wvC rfl (wvC (congrArg (fun z => aI cI (a 26) 24 (oF z)) (show sv = pfx (fun i => smV va i w) sv 0 from by exact (pfx_0 _ _).symm)) rfl)))
  exact lp_2 (24 - 0 + 1) 0 (by first | rfl | omega | (simp_all; done)) (by omega) _ _ (hw_2 ▸ hP) (hw_2 ▸ hD) hS ls (lvcv (l := [(0, .ref (a 6)), (1, .int (nI w)), (2, .int (nI 0))]) (lv_sub hl [1, 2, 0] rfl) (lvC (lvC (lvC rfl))))

set_option maxHeartbeats 400000 in
set_option maxRecDepth 100000 in
theorem c_X3_outdoes (l : Launch) (G : va_G) (cI cJ : ClassId) (a : Nat → Nat) (en : Int32) (sv : Nat → Nat) (n : Nat) (m : Nat) (hi : Prop) (vb : VB sv) (hn : n < 24) (hm : m < 24) (h1 : sv n ≠ 0) (h2 : sv m ≠ 0) : Met l yX3_outdoes wsX3_outdoes ({ frames := 0, cells := 0, slots := 0, locals := 0 }) (roP G cI cJ [.ref (a 6), .int (nI n), .int (nI m), .int (bi hi)] [oRo a en, aI cI (a 26) 24 (oF sv)]) (vp_Si (fun r => r = bi (outd sv n m hi))) 0 0 (fun _ => False) := by
  refine Met.ofW (cc := cX3_outdoes) (maxL := 5) (ret := (some .boolean)) (by decide) rfl ?_
  intro pg ev s mt args below meth cd s₁ B hml hv
  obtain ⟨rfl, hP, hK⟩ := hv
  have hx := B.exec
  have hb := B.bytes
  have hr := B.returns
  have hts := atoms_spec (ws := wsX3_outdoes) B.pre
  have hown : s.vm.findClass RX3 = some mt.cls := findClass_of_methodNamed B.named
  have hlocks := B.notSynchronized
  have hP : va_P G vwCl [oRo a en, aI cI (a 26) 24 (oF sv)] s.heap := hP
  have hinX3 := (show ∀ w ∈ u_ws RX3 TX3 3, w ∈ wsX3_outdoes by decide +kernel)
  have fl15 := hts (.fieldLink RX3 15 "SpotRows$Row" "smooths" "[I") (by decide +kernel)
  have hl := lv_entry ([.ref (a 6), .int (nI n), .int (nI m), .int (bi hi)]) (n := 5) (Nat.le_of_ble_eq_true rfl)
  rw [lg_entry_eq]
  generalize (lg_sl ([.ref (a 6), .int (nI n), .int (nI m), .int (bi hi)]) ++ List.replicate (5 - (lg_sl ([.ref (a 6), .int (nI n), .int (nI m), .int (bi hi)])).length) Slot.unset).toArray = ls at hl ⊢
  have hl : lv_has ls 5 [(0, .ref (a 6)), (1, .int (nI n)), (2, .int (nI m)), (3, .int (bi hi))] := hl
  have f1 := vb n
  have f2 := vb m
  refine lv_iload_n hx hb dX3_outdoes_0 rfl (lv_at hl 3 rfl) ?_
  refine nb_if_eq (tgt := 20) hx hb dX3_outdoes_1 (by decide) (fun c_1 => ?_) (fun c_1 => ?_)
  · refine lv_aload_n hx hb dX3_outdoes_20 rfl (lv_at hl 0 rfl) ?_
    refine va_get (D := G) (own := RX3) (ref := "SpotRows$Row") (ci := 3) (v := .ref (a 26)) (C := RX3) (T := TX3) (N := 3) hx hb hts hinX3 hown hK.1 hP 0 rfl rfl 1 (by decide) fl15 (fun _ h9 => h9) rfl dX3_outdoes_21 ?_
    refine lv_iload_n hx hb dX3_outdoes_24 rfl (lv_at hl 2 rfl) ?_
    refine ld_oF hx hb hK hP 1 (k := m) rfl (by first | omega | exact Nat.le_trans (vb _) (by decide) | exact Nat.lt_of_le_of_lt (vb _) (by decide)) (by decide) dX3_outdoes_25 ?_
    refine toi (oI_pos (by first | assumption | omega)) ?_
    refine lv_aload_n hx hb dX3_outdoes_26 rfl (lv_at hl 0 rfl) ?_
    refine va_get (D := G) (own := RX3) (ref := "SpotRows$Row") (ci := 3) (v := .ref (a 26)) (C := RX3) (T := TX3) (N := 3) hx hb hts hinX3 hown hK.1 hP 0 rfl rfl 1 (by decide) fl15 (fun _ h9 => h9) rfl dX3_outdoes_27 ?_
    refine lv_iload_n hx hb dX3_outdoes_30 rfl (lv_at hl 1 rfl) ?_
    refine ld_oF hx hb hK hP 1 (k := n) rfl (by first | omega | exact Nat.le_trans (vb _) (by decide) | exact Nat.lt_of_le_of_lt (vb _) (by decide)) (by decide) dX3_outdoes_31 ?_
    refine toi (oI_pos (by first | assumption | omega)) ?_
    refine lv_isub hx hb dX3_outdoes_32 ?_
    refine lv_istore (lv' := [(4, .int ((nI (sv m - 1)) - (nI (sv n - 1)))), (0, .ref (a 6)), (1, .int (nI n)), (2, .int (nI m)), (3, .int (bi hi))]) hx hb dX3_outdoes_33 hl (by decide) rfl (fun ls hl => ?_)
    refine lv_iload_n hx hb dX3_outdoes_35 rfl (lv_at hl 2 rfl) ?_
    refine lv_iload_n hx hb dX3_outdoes_36 rfl (lv_at hl 3 rfl) ?_
    refine nv_icmp_ge (tgt := 53) hx hb dX3_outdoes_37 (by decide) (by first | omega | exact Nat.le_trans (vb _) (by decide) | exact Nat.lt_of_le_of_lt (vb _) (by decide)) (by first | omega | exact Nat.le_trans (vb _) (by decide) | exact Nat.lt_of_le_of_lt (vb _) (by decide)) (fun c_37 => ?_) (fun c_37 => ?_)
    · refine lv_iload hx hb dX3_outdoes_53 (lv_at hl 0 rfl) ?_
      refine lv_if_le (tgt := 62) hx hb dX3_outdoes_55 (by decide) (fun c_55 => ?_) (fun c_55 => ?_)
      · refine lv_iconst (v := nI 0) hx hb dX3_outdoes_62 (by decide) ?_
        exact W.zret (v := nI 0) hx hb hr rfl (fun zt ht zw => ⟨_, rfl, (show nI 0 = bi (outd sv n m hi) from (bi_f (by (try rw [sb_lt (by omega) (by omega)] at c_42); (try rw [sb_le (by omega) (by omega)] at c_55); simp [outd, c_1]; omega)).symm), ht⟩) (fun q hq => absurd hq List.not_mem_nil) dX3_outdoes_63
      refine lv_iconst (v := nI 1) hx hb dX3_outdoes_58 (by decide) ?_
      refine lv_goto (tgt := 63) hx hb dX3_outdoes_59 (by decide) ?_
      exact W.zret (v := nI 1) hx hb hr rfl (fun zt ht zw => ⟨_, rfl, (show nI 1 = bi (outd sv n m hi) from (bi_t (by (try rw [sb_lt (by omega) (by omega)] at c_42); (try rw [sb_le (by omega) (by omega)] at c_55); simp [outd, c_1]; omega)).symm), ht⟩) (fun q hq => absurd hq List.not_mem_nil) dX3_outdoes_63
    refine lv_iload hx hb dX3_outdoes_40 (lv_at hl 0 rfl) ?_
    refine lv_if_lt (tgt := 49) hx hb dX3_outdoes_42 (by decide) (fun c_42 => ?_) (fun c_42 => ?_)
    · refine lv_iconst (v := nI 0) hx hb dX3_outdoes_49 (by decide) ?_
      refine lv_goto (tgt := 63) hx hb dX3_outdoes_50 (by decide) ?_
      exact W.zret (v := nI 0) hx hb hr rfl (fun zt ht zw => ⟨_, rfl, (show nI 0 = bi (outd sv n m hi) from (bi_f (by (try rw [sb_lt (by omega) (by omega)] at c_42); (try rw [sb_le (by omega) (by omega)] at c_55); simp [outd, c_1]; omega)).symm), ht⟩) (fun q hq => absurd hq List.not_mem_nil) dX3_outdoes_63
    refine lv_iconst (v := nI 1) hx hb dX3_outdoes_45 (by decide) ?_
    refine lv_goto (tgt := 63) hx hb dX3_outdoes_46 (by decide) ?_
    exact W.zret (v := nI 1) hx hb hr rfl (fun zt ht zw => ⟨_, rfl, (show nI 1 = bi (outd sv n m hi) from (bi_t (by (try rw [sb_lt (by omega) (by omega)] at c_42); (try rw [sb_le (by omega) (by omega)] at c_55); simp [outd, c_1]; omega)).symm), ht⟩) (fun q hq => absurd hq List.not_mem_nil) dX3_outdoes_63
  refine lv_aload_n hx hb dX3_outdoes_4 rfl (lv_at hl 0 rfl) ?_
  refine va_get (D := G) (own := RX3) (ref := "SpotRows$Row") (ci := 3) (v := .ref (a 26)) (C := RX3) (T := TX3) (N := 3) hx hb hts hinX3 hown hK.1 hP 0 rfl rfl 1 (by decide) fl15 (fun _ h9 => h9) rfl dX3_outdoes_5 ?_
  refine lv_iload_n hx hb dX3_outdoes_8 rfl (lv_at hl 1 rfl) ?_
  refine ld_oF hx hb hK hP 1 (k := n) rfl (by first | omega | exact Nat.le_trans (vb _) (by decide) | exact Nat.lt_of_le_of_lt (vb _) (by decide)) (by decide) dX3_outdoes_9 ?_
  refine toi (oI_pos (by first | assumption | omega)) ?_
  refine lv_aload_n hx hb dX3_outdoes_10 rfl (lv_at hl 0 rfl) ?_
  refine va_get (D := G) (own := RX3) (ref := "SpotRows$Row") (ci := 3) (v := .ref (a 26)) (C := RX3) (T := TX3) (N := 3) hx hb hts hinX3 hown hK.1 hP 0 rfl rfl 1 (by decide) fl15 (fun _ h9 => h9) rfl dX3_outdoes_11 ?_
  refine lv_iload_n hx hb dX3_outdoes_14 rfl (lv_at hl 2 rfl) ?_
  refine ld_oF hx hb hK hP 1 (k := m) rfl (by first | omega | exact Nat.le_trans (vb _) (by decide) | exact Nat.lt_of_le_of_lt (vb _) (by decide)) (by decide) dX3_outdoes_15 ?_
  refine toi (oI_pos (by first | assumption | omega)) ?_
  refine lv_isub hx hb dX3_outdoes_16 ?_
  refine lv_goto (tgt := 33) hx hb dX3_outdoes_17 (by decide) ?_
  refine lv_istore (lv' := [(4, .int ((nI (sv n - 1)) - (nI (sv m - 1)))), (0, .ref (a 6)), (1, .int (nI n)), (2, .int (nI m)), (3, .int (bi hi))]) hx hb dX3_outdoes_33 hl (by decide) rfl (fun ls hl => ?_)
  refine lv_iload_n hx hb dX3_outdoes_35 rfl (lv_at hl 2 rfl) ?_
  refine lv_iload_n hx hb dX3_outdoes_36 rfl (lv_at hl 3 rfl) ?_
  refine nv_icmp_ge (tgt := 53) hx hb dX3_outdoes_37 (by decide) (by first | omega | exact Nat.le_trans (vb _) (by decide) | exact Nat.lt_of_le_of_lt (vb _) (by decide)) (by first | omega | exact Nat.le_trans (vb _) (by decide) | exact Nat.lt_of_le_of_lt (vb _) (by decide)) (fun c_37 => ?_) (fun c_37 => ?_)
  · refine lv_iload hx hb dX3_outdoes_53 (lv_at hl 0 rfl) ?_
    refine lv_if_le (tgt := 62) hx hb dX3_outdoes_55 (by decide) (fun c_55 => ?_) (fun c_55 => ?_)
    · refine lv_iconst (v := nI 0) hx hb dX3_outdoes_62 (by decide) ?_
      exact W.zret (v := nI 0) hx hb hr rfl (fun zt ht zw => ⟨_, rfl, (show nI 0 = bi (outd sv n m hi) from (bi_f (by (try rw [sb_lt (by omega) (by omega)] at c_42); (try rw [sb_le (by omega) (by omega)] at c_55); simp [outd, c_1]; omega)).symm), ht⟩) (fun q hq => absurd hq List.not_mem_nil) dX3_outdoes_63
    refine lv_iconst (v := nI 1) hx hb dX3_outdoes_58 (by decide) ?_
    refine lv_goto (tgt := 63) hx hb dX3_outdoes_59 (by decide) ?_
    exact W.zret (v := nI 1) hx hb hr rfl (fun zt ht zw => ⟨_, rfl, (show nI 1 = bi (outd sv n m hi) from (bi_t (by (try rw [sb_lt (by omega) (by omega)] at c_42); (try rw [sb_le (by omega) (by omega)] at c_55); simp [outd, c_1]; omega)).symm), ht⟩) (fun q hq => absurd hq List.not_mem_nil) dX3_outdoes_63
  refine lv_iload hx hb dX3_outdoes_40 (lv_at hl 0 rfl) ?_
  refine lv_if_lt (tgt := 49) hx hb dX3_outdoes_42 (by decide) (fun c_42 => ?_) (fun c_42 => ?_)
  · refine lv_iconst (v := nI 0) hx hb dX3_outdoes_49 (by decide) ?_
    refine lv_goto (tgt := 63) hx hb dX3_outdoes_50 (by decide) ?_
    exact W.zret (v := nI 0) hx hb hr rfl (fun zt ht zw => ⟨_, rfl, (show nI 0 = bi (outd sv n m hi) from (bi_f (by (try rw [sb_lt (by omega) (by omega)] at c_42); (try rw [sb_le (by omega) (by omega)] at c_55); simp [outd, c_1]; omega)).symm), ht⟩) (fun q hq => absurd hq List.not_mem_nil) dX3_outdoes_63
  refine lv_iconst (v := nI 1) hx hb dX3_outdoes_45 (by decide) ?_
  refine lv_goto (tgt := 63) hx hb dX3_outdoes_46 (by decide) ?_
  exact W.zret (v := nI 1) hx hb hr rfl (fun zt ht zw => ⟨_, rfl, (show nI 1 = bi (outd sv n m hi) from (bi_t (by (try rw [sb_lt (by omega) (by omega)] at c_42); (try rw [sb_le (by omega) (by omega)] at c_55); simp [outd, c_1]; omega)).symm), ht⟩) (fun q hq => absurd hq List.not_mem_nil) dX3_outdoes_63

set_option maxHeartbeats 400000 in
set_option maxRecDepth 100000 in
theorem c_X3_isTurn (l : Launch) (G : va_G) (cI cJ : ClassId) (a : Nat → Nat) (en : Int32) (sv : Nat → Nat) (m : Nat) (rc : Nat) (hi : Prop) (vb : VB sv) (hm : m < 24) (hrc : 1 ≤ rc ∧ rc ≤ 8) : Met l yX3_isTurn wsX3_isTurn ({ frames := 1, cells := 0, slots := 0, locals := 30 }) (roP G cI cJ [.ref (a 6), .int (nI m), .int (nI rc), .int (bi hi)] [oRo a en, aI cI (a 26) 24 (oF sv)]) (vp_Si (fun r => r = bi (isT sv m rc hi))) 0 0 (fun _ => False) := by
  refine Met.ofW (cc := cX3_isTurn) (maxL := 6) (ret := (some .boolean)) (by decide) rfl ?_
  intro pg ev s mt args below meth cd s₁ B hml hv
  obtain ⟨rfl, hP, hK⟩ := hv
  have hx := B.exec
  have hb := B.bytes
  have hr := B.returns
  have hts := atoms_spec (ws := wsX3_isTurn) B.pre
  have hown : s.vm.findClass RX3 = some mt.cls := findClass_of_methodNamed B.named
  have hlocks := B.notSynchronized
  have hP : va_P G vwCl [oRo a en, aI cI (a 26) 24 (oF sv)] s.heap := hP
  have hinX3 := (show ∀ w ∈ u_ws RX3 TX3 3, w ∈ wsX3_isTurn by decide +kernel)
  have fl15 := hts (.fieldLink RX3 15 "SpotRows$Row" "smooths" "[I") (by decide +kernel)
  have hl := lv_entry ([.ref (a 6), .int (nI m), .int (nI rc), .int (bi hi)]) (n := 6) (Nat.le_of_ble_eq_true rfl)
  rw [lg_entry_eq]
  generalize (lg_sl ([.ref (a 6), .int (nI m), .int (nI rc), .int (bi hi)]) ++ List.replicate (6 - (lg_sl ([.ref (a 6), .int (nI m), .int (nI rc), .int (bi hi)])).length) Slot.unset).toArray = ls at hl ⊢
  have hl : lv_has ls 6 [(0, .ref (a 6)), (1, .int (nI m)), (2, .int (nI rc)), (3, .int (bi hi))] := hl
  refine lv_aload_n hx hb dX3_isTurn_0 rfl (lv_at hl 0 rfl) ?_
  refine va_get (D := G) (own := RX3) (ref := "SpotRows$Row") (ci := 3) (v := .ref (a 26)) (C := RX3) (T := TX3) (N := 3) hx hb hts hinX3 hown hK.1 hP 0 rfl rfl 1 (by decide) fl15 (fun _ h9 => h9) rfl dX3_isTurn_1 ?_
  refine lv_iload_n hx hb dX3_isTurn_4 rfl (lv_at hl 1 rfl) ?_
  refine ld_oF hx hb hK hP 1 (k := m) rfl (by first | omega | exact Nat.le_trans (vb _) (by decide) | exact Nat.lt_of_le_of_lt (vb _) (by decide)) (by decide) dX3_isTurn_5 ?_
  refine lv_iconst (v := (-1)) hx hb dX3_isTurn_6 (by decide) ?_
  refine no_icmp_ne (tgt := 12) hx hb dX3_isTurn_7 (by decide) (by first | omega | exact Nat.le_trans (vb _) (by decide) | exact Nat.lt_of_le_of_lt (vb _) (by decide)) (fun c_7 => ?_) (fun c_7 => ?_)
  · refine lv_iload_n hx hb dX3_isTurn_12 rfl (lv_at hl 1 rfl) ?_
    refine lv_iload_n hx hb dX3_isTurn_13 rfl (lv_at hl 2 rfl) ?_
    refine lv_iadd hx hb dX3_isTurn_14 ?_
    refine toi (nI_add m rc) ?_
    refine lv_bipush (v := nI 23) hx hb dX3_isTurn_15 (by decide) ?_
    refine va_mmin hx hb (hml.trans hl.1.symm) (own := RX3) hown (hts (.methodLink RX3 47 Lib.Math.min.name) (by decide +kernel)) (hts (.static Lib.Math.min.name) (by decide +kernel)) (hts (.initialized "java/lang/Math") (by decide +kernel)) (hts (.code Lib.Math.min.name Lib.Math.min.code 2 (some .int)) (by decide +kernel)) (Nat.le_of_ble_eq_true rfl) (Nat.le_of_ble_eq_true rfl) (Nat.zero_le _) (Nat.zero_le _) dX3_isTurn_17 ?_
    refine toi (minI (by first | omega | exact Nat.le_trans (vb _) (by decide) | exact Nat.lt_of_le_of_lt (vb _) (by decide)) (by first | omega | exact Nat.le_trans (vb _) (by decide) | exact Nat.lt_of_le_of_lt (vb _) (by decide))) ?_
    refine lv_istore (lv' := [(4, .int (nI (min (m + rc) 23))), (0, .ref (a 6)), (1, .int (nI m)), (2, .int (nI rc)), (3, .int (bi hi))]) hx hb dX3_isTurn_20 hl (by decide) rfl (fun ls hl => ?_)
    refine lv_iload_n hx hb dX3_isTurn_22 rfl (lv_at hl 2 rfl) ?_
    refine lv_iload_n hx hb dX3_isTurn_23 rfl (lv_at hl 3 rfl) ?_
    refine lv_isub hx hb dX3_isTurn_24 ?_
    refine lv_iconst (v := nI 0) hx hb dX3_isTurn_25 (by decide) ?_
    refine va_mmax hx hb (hml.trans hl.1.symm) (own := RX3) hown (hts (.methodLink RX3 52 Lib.Math.max.name) (by decide +kernel)) (hts (.static Lib.Math.max.name) (by decide +kernel)) (hts (.initialized "java/lang/Math") (by decide +kernel)) (hts (.code Lib.Math.max.name Lib.Math.max.code 2 (some .int)) (by decide +kernel)) (Nat.le_of_ble_eq_true rfl) (Nat.le_of_ble_eq_true rfl) (Nat.zero_le _) (Nat.zero_le _) dX3_isTurn_26 ?_
    refine toi (show (if (nI m) - (nI rc) < nI 0 then nI 0 else (nI m) - (nI rc)) = (nI (m - rc)) from mx0 (by omega) (by omega)) ?_
    refine lv_istore (lv' := [(5, .int (nI (m - rc))), (4, .int (nI (min (m + rc) 23))), (0, .ref (a 6)), (1, .int (nI m)), (2, .int (nI rc)), (3, .int (bi hi))]) hx hb dX3_isTurn_29 hl (by decide) rfl (fun ls hl => ?_)
    have lp_31 : ∀ (nf : Nat) (k : Nat), (m - rc + k ≤ min (m + rc) 23 + 1) → (∀ n, m - rc ≤ n → n < m - rc + k → n ≠ m → sv n ≠ 0 → ¬ outd sv n m hi) → min (m + rc) 23 + 1 - (m - rc + k) < nf → ∀ (ls : Array Slot), lv_has ls 6 [(0, .ref (a 6)), (1, .int (nI m)), (2, .int (nI rc)), (3, .int (bi hi)), (4, .int (nI (min (m + rc) 23))), (5, .int (nI (m - rc + k)))] → W pg l ev (headSpec wsX3_isTurn ({ frames := 1, cells := 0, slots := 0, locals := 30 })).room s mt ([.ref (a 6), .int (nI m), .int (nI rc), .int (bi hi)] : List Value).toArray below meth cd s.heap [] 0 0 (MQ below (vp_Si (fun r => r = bi (isT sv m rc hi))) ([.ref (a 6), .int (nI m), .int (nI rc), .int (bi hi)] : List Value).toArray s 0 0 (fun _ => False)) (F0 mt 31 ls []) := by
      intro nf
      induction nf with
      | zero => intro k hk hall hfu; exact absurd hfu (Nat.not_lt_zero _)
      | succ nf ih_31 =>
        intro k hk hall hfu ls hl
        refine lv_iload hx hb dX3_isTurn_31 (lv_at hl 5 rfl) ?_
        refine lv_iload hx hb dX3_isTurn_33 (lv_at hl 4 rfl) ?_
        refine nv_icmp_gt (tgt := 74) hx hb dX3_isTurn_35 (by decide) (by first | omega | exact Nat.le_trans (vb _) (by decide) | exact Nat.lt_of_le_of_lt (vb _) (by decide)) (by first | omega | exact Nat.le_trans (vb _) (by decide) | exact Nat.lt_of_le_of_lt (vb _) (by decide)) (fun c_35 => ?_) (fun c_35 => ?_)
        · refine lv_iconst (v := nI 1) hx hb dX3_isTurn_74 (by decide) ?_
          exact W.zret (v := nI 1) hx hb hr rfl (fun zt ht zw => ⟨_, rfl, (show nI 1 = bi (isT sv m rc hi) from (bi_t (by exact ⟨c_7, fun n a1 a2 a3 a4 => hall n a1 (by omega) a3 a4⟩)).symm), ht⟩) (fun q hq => absurd hq List.not_mem_nil) dX3_isTurn_75
        refine lv_iload hx hb dX3_isTurn_38 (lv_at hl 5 rfl) ?_
        refine lv_iload_n hx hb dX3_isTurn_40 rfl (lv_at hl 1 rfl) ?_
        refine nv_icmp_eq (tgt := 68) hx hb dX3_isTurn_41 (by decide) (by first | omega | exact Nat.le_trans (vb _) (by decide) | exact Nat.lt_of_le_of_lt (vb _) (by decide)) (by first | omega | exact Nat.le_trans (vb _) (by decide) | exact Nat.lt_of_le_of_lt (vb _) (by decide)) (fun c_41 => ?_) (fun c_41 => ?_)
        · refine lv_iinc (v := nI (m - rc + k + 1)) (lv' := [(5, .int (nI (m - rc + k + 1))), (0, .ref (a 6)), (1, .int (nI m)), (2, .int (nI rc)), (3, .int (bi hi)), (4, .int (nI (min (m + rc) 23)))]) hx hb dX3_isTurn_68 hl (k := 5) rfl (nI_add (m - rc + k) 1) (by decide) rfl (fun ls hl => ?_)
          refine lv_goto (tgt := 31) hx hb dX3_isTurn_71 (by decide) ?_
          exact ih_31 (k + 1) (by first | rfl | omega | (simp_all; done)) (by intro n a1 a2 a3 a4; rcases Nat.lt_or_ge n (m - rc + k) with q | q; exact hall n a1 q a3 a4; have e9 : n = m - rc + k := (by omega); subst e9; first | exact absurd c_41 a3 | exact absurd c_52 a4 | exact c_63) (by omega) ls (lvcv (l := [(0, .ref (a 6)), (1, .int (nI m)), (2, .int (nI rc)), (3, .int (bi hi)), (4, .int (nI (min (m + rc) 23))), (5, .int (nI (m - rc + k + 1)))]) (lv_sub hl [1, 2, 3, 4, 5, 0] rfl) (lvC (lvC (lvC (lvC (lvC (lvI (congrArg nI (show (m - rc + k + 1) = (m - rc + (k + 1)) from by omega)) rfl)))))))
        refine lv_aload_n hx hb dX3_isTurn_44 rfl (lv_at hl 0 rfl) ?_
        refine va_get (D := G) (own := RX3) (ref := "SpotRows$Row") (ci := 3) (v := .ref (a 26)) (C := RX3) (T := TX3) (N := 3) hx hb hts hinX3 hown hK.1 hP 0 rfl rfl 1 (by decide) fl15 (fun _ h9 => h9) rfl dX3_isTurn_45 ?_
        refine lv_iload hx hb dX3_isTurn_48 (lv_at hl 5 rfl) ?_
        refine ld_oF hx hb hK hP 1 (k := m - rc + k) rfl (by first | omega | exact Nat.le_trans (vb _) (by decide) | exact Nat.lt_of_le_of_lt (vb _) (by decide)) (by decide) dX3_isTurn_50 ?_
        refine lv_iconst (v := (-1)) hx hb dX3_isTurn_51 (by decide) ?_
        refine no_icmp_eq (tgt := 68) hx hb dX3_isTurn_52 (by decide) (by first | omega | exact Nat.le_trans (vb _) (by decide) | exact Nat.lt_of_le_of_lt (vb _) (by decide)) (fun c_52 => ?_) (fun c_52 => ?_)
        · refine lv_iinc (v := nI (m - rc + k + 1)) (lv' := [(5, .int (nI (m - rc + k + 1))), (0, .ref (a 6)), (1, .int (nI m)), (2, .int (nI rc)), (3, .int (bi hi)), (4, .int (nI (min (m + rc) 23)))]) hx hb dX3_isTurn_68 hl (k := 5) rfl (nI_add (m - rc + k) 1) (by decide) rfl (fun ls hl => ?_)
          refine lv_goto (tgt := 31) hx hb dX3_isTurn_71 (by decide) ?_
          exact ih_31 (k + 1) (by first | rfl | omega | (simp_all; done)) (by intro n a1 a2 a3 a4; rcases Nat.lt_or_ge n (m - rc + k) with q | q; exact hall n a1 q a3 a4; have e9 : n = m - rc + k := (by omega); subst e9; first | exact absurd c_41 a3 | exact absurd c_52 a4 | exact c_63) (by omega) ls (lvcv (l := [(0, .ref (a 6)), (1, .int (nI m)), (2, .int (nI rc)), (3, .int (bi hi)), (4, .int (nI (min (m + rc) 23))), (5, .int (nI (m - rc + k + 1)))]) (lv_sub hl [1, 2, 3, 4, 5, 0] rfl) (lvC (lvC (lvC (lvC (lvC (lvI (congrArg nI (show (m - rc + k + 1) = (m - rc + (k + 1)) from by omega)) rfl)))))))
        refine lv_aload_n hx hb dX3_isTurn_55 rfl (lv_at hl 0 rfl) ?_
        refine lv_iload hx hb dX3_isTurn_56 (lv_at hl 5 rfl) ?_
        refine lv_iload_n hx hb dX3_isTurn_58 rfl (lv_at hl 1 rfl) ?_
        refine lv_iload_n hx hb dX3_isTurn_59 rfl (lv_at hl 3 rfl) ?_
        refine cro_i (va_runV (As := [.int (nI (m - rc + k)), .int (nI m), .int (bi hi)]) (rest := []) ⟨hx, hb, hml, hown, hts⟩ (c_X3_outdoes l G cI cJ (a := a) (en := en) (sv := sv) (n := m - rc + k) (m := m) (hi := hi) (vb := by first | assumption | omega) (hn := by first | assumption | omega) (hm := by first | assumption | omega) (h1 := by first | assumption | omega) (h2 := by first | assumption | omega)) (cwV 3 hts gX3_isTurn_X3_outdoes rfl rfl rfl (by decide +kernel) ⟨Nat.le_of_ble_eq_true rfl, Nat.le_of_ble_eq_true rfl⟩) (preV_ro (wc := [oRo a en, aI cI (a 26) 24 (oF sv)]) hK hP [0, 1] rfl 3 0 rfl rfl rfl) rfl rfl hl.1 rfl (lv_room (Nat.le_of_ble_eq_true rfl)) dX3_isTurn_60 ⟨Nat.zero_le _, Nat.zero_le _⟩) ?_
        refine nb_if_eq (tgt := 68) hx hb dX3_isTurn_63 (by decide) (fun c_63 => ?_) (fun c_63 => ?_)
        · refine lv_iinc (v := nI (m - rc + k + 1)) (lv' := [(5, .int (nI (m - rc + k + 1))), (0, .ref (a 6)), (1, .int (nI m)), (2, .int (nI rc)), (3, .int (bi hi)), (4, .int (nI (min (m + rc) 23)))]) hx hb dX3_isTurn_68 hl (k := 5) rfl (nI_add (m - rc + k) 1) (by decide) rfl (fun ls hl => ?_)
          refine lv_goto (tgt := 31) hx hb dX3_isTurn_71 (by decide) ?_
          exact ih_31 (k + 1) (by first | rfl | omega | (simp_all; done)) (by intro n a1 a2 a3 a4; rcases Nat.lt_or_ge n (m - rc + k) with q | q; exact hall n a1 q a3 a4; have e9 : n = m - rc + k := (by omega); subst e9; first | exact absurd c_41 a3 | exact absurd c_52 a4 | exact c_63) (by omega) ls (lvcv (l := [(0, .ref (a 6)), (1, .int (nI m)), (2, .int (nI rc)), (3, .int (bi hi)), (4, .int (nI (min (m + rc) 23))), (5, .int (nI (m - rc + k + 1)))]) (lv_sub hl [1, 2, 3, 4, 5, 0] rfl) (lvC (lvC (lvC (lvC (lvC (lvI (congrArg nI (show (m - rc + k + 1) = (m - rc + (k + 1)) from by omega)) rfl)))))))
        refine lv_iconst (v := nI 0) hx hb dX3_isTurn_66 (by decide) ?_
        exact W.zret (v := nI 0) hx hb hr rfl (fun zt ht zw => ⟨_, rfl, (show nI 0 = bi (isT sv m rc hi) from (bi_f (by exact fun h => h.2 (m - rc + k) (by omega) (by omega) (by omega) c_52 c_63)).symm), ht⟩) (fun q hq => absurd hq List.not_mem_nil) dX3_isTurn_67
    exact lp_31 (min (m + rc) 23 + 1 - (m - rc + 0) + 1) 0 (by first | rfl | omega | (simp_all; done)) (by intro n a1 a2; omega) (by omega) ls (lvcv (l := [(0, .ref (a 6)), (1, .int (nI m)), (2, .int (nI rc)), (3, .int (bi hi)), (4, .int (nI (min (m + rc) 23))), (5, .int (nI (m - rc)))]) (lv_sub hl [2, 3, 4, 5, 1, 0] rfl) (lvC (lvC (lvC (lvC (lvC (lvI (congrArg nI (show (m - rc) = (m - rc + 0) from by omega)) rfl)))))))
  refine lv_iconst (v := nI 0) hx hb dX3_isTurn_10 (by decide) ?_
  exact W.zret (v := nI 0) hx hb hr rfl (fun zt ht zw => ⟨_, rfl, (show nI 0 = bi (isT sv m rc hi) from (bi_f (by exact fun h => h.1 c_7)).symm), ht⟩) (fun q hq => absurd hq List.not_mem_nil) dX3_isTurn_11

set_option maxHeartbeats 400000 in
set_option maxRecDepth 100000 in
theorem c_X3_findTurn (l : Launch) (G : va_G) (cI cJ : ClassId) (a : Nat → Nat) (en : Int32) (sv : Nat → Nat) (k : Nat) (rc : Nat) (hi : Prop) (vb : VB sv) (hk : k < 2 ^ 31) (hrc : 1 ≤ rc ∧ rc ≤ 8) : Met l yX3_findTurn wsX3_findTurn ({ frames := 2, cells := 0, slots := 0, locals := 55 }) (roP G cI cJ [.ref (a 6), .int (nI k), .int (nI rc), .int (bi hi)] [oRo a en, aI cI (a 26) 24 (oF sv)]) (vp_Si (fun r => r = oI (ftv sv rc hi k 24 0 0))) 0 0 (fun _ => False) := by
  refine Met.ofW (cc := cX3_findTurn) (maxL := 6) (ret := (some .int)) (by decide) rfl ?_
  intro pg ev s mt args below meth cd s₁ B hml hv
  obtain ⟨rfl, hP, hK⟩ := hv
  have hx := B.exec
  have hb := B.bytes
  have hr := B.returns
  have hts := atoms_spec (ws := wsX3_findTurn) B.pre
  have hown : s.vm.findClass RX3 = some mt.cls := findClass_of_methodNamed B.named
  have hlocks := B.notSynchronized
  have hP : va_P G vwCl [oRo a en, aI cI (a 26) 24 (oF sv)] s.heap := hP
  have hl := lv_entry ([.ref (a 6), .int (nI k), .int (nI rc), .int (bi hi)]) (n := 6) (Nat.le_of_ble_eq_true rfl)
  rw [lg_entry_eq]
  generalize (lg_sl ([.ref (a 6), .int (nI k), .int (nI rc), .int (bi hi)]) ++ List.replicate (6 - (lg_sl ([.ref (a 6), .int (nI k), .int (nI rc), .int (bi hi)])).length) Slot.unset).toArray = ls at hl ⊢
  have hl : lv_has ls 6 [(0, .ref (a 6)), (1, .int (nI k)), (2, .int (nI rc)), (3, .int (bi hi))] := hl
  refine lv_iconst (v := nI 0) hx hb dX3_findTurn_0 (by decide) ?_
  refine lv_istore (lv' := [(4, .int (nI 0)), (0, .ref (a 6)), (1, .int (nI k)), (2, .int (nI rc)), (3, .int (bi hi))]) hx hb dX3_findTurn_1 hl (by decide) rfl (fun ls hl => ?_)
  refine lv_iconst (v := nI 0) hx hb dX3_findTurn_3 (by decide) ?_
  refine lv_istore (lv' := [(5, .int (nI 0)), (4, .int (nI 0)), (0, .ref (a 6)), (1, .int (nI k)), (2, .int (nI rc)), (3, .int (bi hi))]) hx hb dX3_findTurn_4 hl (by decide) rfl (fun ls hl => ?_)
  have lp_6 : ∀ (nf : Nat) (m : Nat) (b : Nat), (m ≤ 24) → (b ≤ m) → (ftv sv rc hi k 24 0 0 = ftv sv rc hi k (24 - m) m b) → 24 - m < nf → ∀ (ls : Array Slot), lv_has ls 6 [(0, .ref (a 6)), (1, .int (nI k)), (2, .int (nI rc)), (3, .int (bi hi)), (4, .int (nI b)), (5, .int (nI m))] → W pg l ev (headSpec wsX3_findTurn ({ frames := 2, cells := 0, slots := 0, locals := 55 })).room s mt ([.ref (a 6), .int (nI k), .int (nI rc), .int (bi hi)] : List Value).toArray below meth cd s.heap [] 0 0 (MQ below (vp_Si (fun r => r = oI (ftv sv rc hi k 24 0 0))) ([.ref (a 6), .int (nI k), .int (nI rc), .int (bi hi)] : List Value).toArray s 0 0 (fun _ => False)) (F0 mt 6 ls []) := by
    intro nf
    induction nf with
    | zero => intro m b hm hb2 hq hfu; exact absurd hfu (Nat.not_lt_zero _)
    | succ nf ih_6 =>
      intro m b hm hb2 hq hfu ls hl
      refine lv_iload hx hb dX3_findTurn_6 (lv_at hl 5 rfl) ?_
      refine lv_bipush (v := nI 24) hx hb dX3_findTurn_8 (by decide) ?_
      refine nv_icmp_ge (tgt := 42) hx hb dX3_findTurn_10 (by decide) (by omega) (by omega) (fun c_10 => ?_) (fun c_10 => ?_)
      · refine lv_iconst (v := (-1)) hx hb dX3_findTurn_42 (by decide) ?_
        exact W.iret (v := (-1)) hx hb hr (fun zt ht zw => ⟨_, rfl, (m1_o.trans (congrArg oI (show 0 = (ftv sv rc hi k 24 0 0) from by rw [hq, show 24 - m = 0 from by omega]; rfl))), ht⟩) (fun q hq => absurd hq List.not_mem_nil) dX3_findTurn_43
      refine lv_aload_n hx hb dX3_findTurn_13 rfl (lv_at hl 0 rfl) ?_
      refine lv_iload hx hb dX3_findTurn_14 (lv_at hl 5 rfl) ?_
      refine lv_iload_n hx hb dX3_findTurn_16 rfl (lv_at hl 2 rfl) ?_
      refine lv_iload_n hx hb dX3_findTurn_17 rfl (lv_at hl 3 rfl) ?_
      refine cro_i (va_runV (As := [.int (nI m), .int (nI rc), .int (bi hi)]) (rest := []) ⟨hx, hb, hml, hown, hts⟩ (c_X3_isTurn l G cI cJ (a := a) (en := en) (sv := sv) (m := m) (rc := rc) (hi := hi) (vb := by first | assumption | omega) (hm := by first | assumption | omega) (hrc := by first | assumption | omega)) (cwV 3 hts gX3_findTurn_X3_isTurn rfl rfl rfl (by decide +kernel) ⟨Nat.le_of_ble_eq_true rfl, Nat.le_of_ble_eq_true rfl⟩) (preV_ro (wc := [oRo a en, aI cI (a 26) 24 (oF sv)]) hK hP [0, 1] rfl 3 0 rfl rfl rfl) rfl rfl hl.1 rfl (lv_room (Nat.le_of_ble_eq_true rfl)) dX3_findTurn_18 ⟨Nat.zero_le _, Nat.zero_le _⟩) ?_
      refine nb_if_eq (tgt := 36) hx hb dX3_findTurn_21 (by decide) (fun c_21 => ?_) (fun c_21 => ?_)
      · refine lv_iinc (v := nI (m + 1)) (lv' := [(5, .int (nI (m + 1))), (0, .ref (a 6)), (1, .int (nI k)), (2, .int (nI rc)), (3, .int (bi hi)), (4, .int (nI b))]) hx hb dX3_findTurn_36 hl (k := 5) rfl (nI_add m 1) (by decide) rfl (fun ls hl => ?_)
        refine lv_goto (tgt := 6) hx hb dX3_findTurn_39 (by decide) ?_
        exact ih_6 (m + 1) b (by first | rfl | omega | (simp_all; done)) (by first | rfl | omega | (simp_all; done)) (by rw [hq, show 24 - m = 24 - (m + 1) + 1 from by omega, ftv]; first | rw [cif_pos c_21, if_neg c_27] | rw [cif_neg c_21]) (by omega) ls (lvcv (l := [(0, .ref (a 6)), (1, .int (nI k)), (2, .int (nI rc)), (3, .int (bi hi)), (4, .int (nI b)), (5, .int (nI (m + 1)))]) (lv_sub hl [1, 2, 3, 4, 5, 0] rfl) (lvC (lvC (lvC (lvC (lvC (lvC rfl)))))))
      refine lv_iload hx hb dX3_findTurn_24 (lv_at hl 4 rfl) ?_
      refine lv_iload_n hx hb dX3_findTurn_26 rfl (lv_at hl 1 rfl) ?_
      refine nv_icmp_ne (tgt := 33) hx hb dX3_findTurn_27 (by decide) (by omega) (by omega) (fun c_27 => ?_) (fun c_27 => ?_)
      · refine lv_iinc (v := nI (b + 1)) (lv' := [(4, .int (nI (b + 1))), (0, .ref (a 6)), (1, .int (nI k)), (2, .int (nI rc)), (3, .int (bi hi)), (5, .int (nI m))]) hx hb dX3_findTurn_33 hl (k := 4) rfl (nI_add b 1) (by decide) rfl (fun ls hl => ?_)
        refine lv_iinc (v := nI (m + 1)) (lv' := [(5, .int (nI (m + 1))), (4, .int (nI (b + 1))), (0, .ref (a 6)), (1, .int (nI k)), (2, .int (nI rc)), (3, .int (bi hi))]) hx hb dX3_findTurn_36 hl (k := 5) rfl (nI_add m 1) (by decide) rfl (fun ls hl => ?_)
        refine lv_goto (tgt := 6) hx hb dX3_findTurn_39 (by decide) ?_
        exact ih_6 (m + 1) (b + 1) (by first | rfl | omega | (simp_all; done)) (by first | rfl | omega | (simp_all; done)) (by rw [hq, show 24 - m = 24 - (m + 1) + 1 from by omega, ftv]; first | rw [cif_pos c_21, if_neg c_27] | rw [cif_neg c_21]) (by omega) ls (lvcv (l := [(0, .ref (a 6)), (1, .int (nI k)), (2, .int (nI rc)), (3, .int (bi hi)), (4, .int (nI (b + 1))), (5, .int (nI (m + 1)))]) (lv_sub hl [2, 3, 4, 5, 1, 0] rfl) (lvC (lvC (lvC (lvC (lvC (lvC rfl)))))))
      refine lv_iload hx hb dX3_findTurn_30 (lv_at hl 5 rfl) ?_
      exact W.iret (v := nI m) hx hb hr (fun zt ht zw => ⟨_, rfl, ((nI_o m).trans (congrArg oI (show m + 1 = (ftv sv rc hi k 24 0 0) from by rw [hq, show 24 - m = 24 - (m + 1) + 1 from by omega, ftv, cif_pos c_21, if_pos c_27]))), ht⟩) (fun q hq => absurd hq List.not_mem_nil) dX3_findTurn_32
  exact lp_6 (24 - 0 + 1) 0 0 (by first | rfl | omega | (simp_all; done)) (by first | rfl | omega | (simp_all; done)) (by rfl) (by omega) ls (lvcv (l := [(0, .ref (a 6)), (1, .int (nI k)), (2, .int (nI rc)), (3, .int (bi hi)), (4, .int (nI 0)), (5, .int (nI 0))]) (lv_sub hl [2, 3, 4, 5, 1, 0] rfl) (lvC (lvC (lvC (lvC (lvC (lvC rfl)))))))
