set_option maxHeartbeats 1000000 in
set_option maxRecDepth 100000 in
theorem c_X0_init (l : Launch) (G : va_G) (cI cJ : ClassId) (h0 sz : Nat) : Met l yX0_init wsX0_init ({ frames := 1, cells := 4, slots := 32, locals := 12 }) (inP G cI cJ h0 [(h0, .inr (0, [.null, .null, .null, .null]))] sz) (inQ G [(h0, .inr (0, [.null, .null, .null, .null]))] sz (fun _ => True) (fun u => [(h0, .inr (0, [.ref (u 0), .ref (u 1), .ref (u 2), .ref (u 3)])), aI cI (u 0) 8 (oF (fun _ => 1)), aI cI (u 1) 8 (nF (fun _ => 0)), aI cI (u 2) 8 (oF (fun _ => 1)), aI cI (u 3) 8 (nF (fun _ => 0))])) 4 32 (va_A [(h0, .inr (0, [.null, .null, .null, .null]))] sz) := by
  refine Met.ofW (cc := cX0_init) (maxL := 1) (ret := none) (by decide) rfl ?_
  intro pg ev s mt args below meth cd s₁ B hml hv
  obtain ⟨rfl, hsz, hP, hD0, hK⟩ := hv
  have hx := B.exec
  have hb := B.bytes
  have hr := B.returns
  have hts := atoms_spec (ws := wsX0_init) B.pre
  have hown : s.vm.findClass RX0 = some mt.cls := findClass_of_methodNamed B.named
  have hin : meth.name = "<init>" := (name_of_methodNamed B.named B.method).1
  subst hsz
  have hD := hD0.self (sz := s.heap.size)
  generalize hAe : va_A [(h0, .inr (0, [.null, .null, .null, .null]))] s.heap.size = A at hD ⊢
  have hA : ∀ q : Nat, s.heap.size ≤ q → A q := fun q h => by rw [← hAe]; exact Or.inr h
  have hS : va_S A s.heap s.heap [] := va_S.rf
  have hP : va_P G vwCl [(h0, .inr (0, [.null, .null, .null, .null]))] s.heap := hP
  have fl9 := hts (.fieldLink RX0 9 "SpotRows$Chains" "links" "[I") (by decide +kernel)
  have hinX0 := (show ∀ w ∈ u_ws RX0 TX0 4, w ∈ wsX0_init by decide +kernel)
  have fl15 := hts (.fieldLink RX0 15 "SpotRows$Chains" "widths" "[I") (by decide +kernel)
  have fl18 := hts (.fieldLink RX0 18 "SpotRows$Chains" "weights" "[I") (by decide +kernel)
  have fl21 := hts (.fieldLink RX0 21 "SpotRows$Chains" "way" "[I") (by decide +kernel)
  have hl := lv_entry ([.ref h0]) (n := 1) (Nat.le_of_ble_eq_true rfl)
  rw [lg_entry_eq]
  generalize (lg_sl ([.ref h0]) ++ List.replicate (1 - (lg_sl ([.ref h0])).length) Slot.unset).toArray = ls at hl ⊢
  have hl : lv_has ls 1 [(0, .ref h0)] := hl
  refine lv_aload_n hx hb dX0_init_0 rfl (lv_at hl 0 rfl) ?_
  refine W.objInit hx hb hown (hts (.methodLink RX0 3 objectInit) (by decide +kernel)) (hts (.instanceMethod objectInit) (by decide +kernel)) (hts (.code objectInit ⟨#[0xb1]⟩ 1 none) (by decide +kernel)) rfl (by rw [hml]; exact hl.1) rfl dX0_init_1 (Nat.le_of_ble_eq_true rfl) (Nat.le_of_ble_eq_true rfl) ?_
  refine W.eq (g2 := F0 mt 4 ls []) rfl ?_
  refine lv_aload_n hx hb dX0_init_4 rfl (lv_at hl 0 rfl) ?_
  refine lv_bipush (v := nI 8) hx hb dX0_init_5 (by decide) ?_
  refine nw_I hx hb (hts (.arrayClass .int) (by decide +kernel)) hK hP hD hS hA (N := 8) (by decide) (Nat.le_of_ble_eq_true rfl) (Nat.le_of_ble_eq_true rfl) dX0_init_7 (fun q7 H hP hD hS => ?_)
  have hP : va_P G vwCl [(h0, .inr (0, [.null, .null, .null, .null])), aI cI (q7) 8 (nF (fun _ => 0))] H := hP
  have hD : va_D A [(h0, .inr (0, [.null, .null, .null, .null])), aI cI (q7) 8 (nF (fun _ => 0))] := hD
  refine W.widen (k := 1) (n := 8) (Nat.le_of_ble_eq_true rfl) (Nat.le_of_ble_eq_true rfl) ?_
  refine va_putF (D := G) (own := RX0) (ref := "SpotRows$Chains") (ci := 0) (v := .ref q7) (ty := .array .int) (C := RX0) (T := TX0) (N := 4) hx hb hts hinX0 tyX0 tyX0_ok nmX0 hown hK.1 hP hD hS 0 rfl rfl 0 (by decide) fl9 (fun _ h9 => h9) rfl hin rfl (by decide +kernel) rfl rfl (Nat.le_of_ble_eq_true rfl) dX0_init_9 (fun H locs hP hD hS => ?_)
  have hP : va_P G vwCl [(h0, .inr (0, [.ref q7, .null, .null, .null])), aI cI (q7) 8 (nF (fun _ => 0))] H := hP
  have hD : va_D A [(h0, .inr (0, [.ref q7, .null, .null, .null])), aI cI (q7) 8 (nF (fun _ => 0))] := hD
  refine lv_aload_n hx hb dX0_init_12 rfl (lv_at hl 0 rfl) ?_
  refine lv_bipush (v := nI 8) hx hb dX0_init_13 (by decide) ?_
  refine nw_I hx hb (hts (.arrayClass .int) (by decide +kernel)) hK hP hD hS hA (N := 8) (by decide) (Nat.le_of_ble_eq_true rfl) (Nat.le_of_ble_eq_true rfl) dX0_init_15 (fun q15 H hP hD hS => ?_)
  have hP : va_P G vwCl [(h0, .inr (0, [.ref q7, .null, .null, .null])), aI cI (q7) 8 (nF (fun _ => 0)), aI cI (q15) 8 (nF (fun _ => 0))] H := hP
  have hD : va_D A [(h0, .inr (0, [.ref q7, .null, .null, .null])), aI cI (q7) 8 (nF (fun _ => 0)), aI cI (q15) 8 (nF (fun _ => 0))] := hD
  refine W.widen (k := 2) (n := 16) (Nat.le_of_ble_eq_true rfl) (Nat.le_of_ble_eq_true rfl) ?_
  refine va_putF (D := G) (own := RX0) (ref := "SpotRows$Chains") (ci := 0) (v := .ref q15) (ty := .array .int) (C := RX0) (T := TX0) (N := 4) hx hb hts hinX0 tyX0 tyX0_ok nmX0 hown hK.1 hP hD hS 0 rfl rfl 1 (by decide) fl15 (fun _ h9 => h9) rfl hin rfl (by decide +kernel) rfl rfl (Nat.le_of_ble_eq_true rfl) dX0_init_17 (fun H locs hP hD hS => ?_)
  have hP : va_P G vwCl [(h0, .inr (0, [.ref q7, .ref q15, .null, .null])), aI cI (q7) 8 (nF (fun _ => 0)), aI cI (q15) 8 (nF (fun _ => 0))] H := hP
  have hD : va_D A [(h0, .inr (0, [.ref q7, .ref q15, .null, .null])), aI cI (q7) 8 (nF (fun _ => 0)), aI cI (q15) 8 (nF (fun _ => 0))] := hD
  refine lv_aload_n hx hb dX0_init_20 rfl (lv_at hl 0 rfl) ?_
  refine lv_bipush (v := nI 8) hx hb dX0_init_21 (by decide) ?_
  refine nw_I hx hb (hts (.arrayClass .int) (by decide +kernel)) hK hP hD hS hA (N := 8) (by decide) (Nat.le_of_ble_eq_true rfl) (Nat.le_of_ble_eq_true rfl) dX0_init_23 (fun q23 H hP hD hS => ?_)
  have hP : va_P G vwCl [(h0, .inr (0, [.ref q7, .ref q15, .null, .null])), aI cI (q7) 8 (nF (fun _ => 0)), aI cI (q15) 8 (nF (fun _ => 0)), aI cI (q23) 8 (nF (fun _ => 0))] H := hP
  have hD : va_D A [(h0, .inr (0, [.ref q7, .ref q15, .null, .null])), aI cI (q7) 8 (nF (fun _ => 0)), aI cI (q15) 8 (nF (fun _ => 0)), aI cI (q23) 8 (nF (fun _ => 0))] := hD
  refine W.widen (k := 3) (n := 24) (Nat.le_of_ble_eq_true rfl) (Nat.le_of_ble_eq_true rfl) ?_
  refine va_putF (D := G) (own := RX0) (ref := "SpotRows$Chains") (ci := 0) (v := .ref q23) (ty := .array .int) (C := RX0) (T := TX0) (N := 4) hx hb hts hinX0 tyX0 tyX0_ok nmX0 hown hK.1 hP hD hS 0 rfl rfl 2 (by decide) fl18 (fun _ h9 => h9) rfl hin rfl (by decide +kernel) rfl rfl (Nat.le_of_ble_eq_true rfl) dX0_init_25 (fun H locs hP hD hS => ?_)
  have hP : va_P G vwCl [(h0, .inr (0, [.ref q7, .ref q15, .ref q23, .null])), aI cI (q7) 8 (nF (fun _ => 0)), aI cI (q15) 8 (nF (fun _ => 0)), aI cI (q23) 8 (nF (fun _ => 0))] H := hP
  have hD : va_D A [(h0, .inr (0, [.ref q7, .ref q15, .ref q23, .null])), aI cI (q7) 8 (nF (fun _ => 0)), aI cI (q15) 8 (nF (fun _ => 0)), aI cI (q23) 8 (nF (fun _ => 0))] := hD
  refine lv_aload_n hx hb dX0_init_28 rfl (lv_at hl 0 rfl) ?_
  refine lv_bipush (v := nI 8) hx hb dX0_init_29 (by decide) ?_
  refine nw_I hx hb (hts (.arrayClass .int) (by decide +kernel)) hK hP hD hS hA (N := 8) (by decide) (Nat.le_of_ble_eq_true rfl) (Nat.le_of_ble_eq_true rfl) dX0_init_31 (fun q31 H hP hD hS => ?_)
  have hP : va_P G vwCl [(h0, .inr (0, [.ref q7, .ref q15, .ref q23, .null])), aI cI (q7) 8 (nF (fun _ => 0)), aI cI (q15) 8 (nF (fun _ => 0)), aI cI (q23) 8 (nF (fun _ => 0)), aI cI (q31) 8 (nF (fun _ => 0))] H := hP
  have hD : va_D A [(h0, .inr (0, [.ref q7, .ref q15, .ref q23, .null])), aI cI (q7) 8 (nF (fun _ => 0)), aI cI (q15) 8 (nF (fun _ => 0)), aI cI (q23) 8 (nF (fun _ => 0)), aI cI (q31) 8 (nF (fun _ => 0))] := hD
  refine W.widen (k := 4) (n := 32) (Nat.le_of_ble_eq_true rfl) (Nat.le_of_ble_eq_true rfl) ?_
  refine va_putF (D := G) (own := RX0) (ref := "SpotRows$Chains") (ci := 0) (v := .ref q31) (ty := .array .int) (C := RX0) (T := TX0) (N := 4) hx hb hts hinX0 tyX0 tyX0_ok nmX0 hown hK.1 hP hD hS 0 rfl rfl 3 (by decide) fl21 (fun _ h9 => h9) rfl hin rfl (by decide +kernel) rfl rfl (Nat.le_of_ble_eq_true rfl) dX0_init_33 (fun H locs hP hD hS => ?_)
  have hP : va_P G vwCl [(h0, .inr (0, [.ref q7, .ref q15, .ref q23, .ref q31])), aI cI (q7) 8 (nF (fun _ => 0)), aI cI (q15) 8 (nF (fun _ => 0)), aI cI (q23) 8 (nF (fun _ => 0)), aI cI (q31) 8 (nF (fun _ => 0))] H := hP
  have hD : va_D A [(h0, .inr (0, [.ref q7, .ref q15, .ref q23, .ref q31])), aI cI (q7) 8 (nF (fun _ => 0)), aI cI (q15) 8 (nF (fun _ => 0)), aI cI (q23) 8 (nF (fun _ => 0)), aI cI (q31) 8 (nF (fun _ => 0))] := hD
  obtain ⟨hP, hD⟩ := extI (g := (oF (fun _ => 1))) hP hD 1 rfl (fun i _ => c0_1)
  have hP : va_P G vwCl [(h0, .inr (0, [.ref q7, .ref q15, .ref q23, .ref q31])), aI cI (q7) 8 (oF (fun _ => 1)), aI cI (q15) 8 (nF (fun _ => 0)), aI cI (q23) 8 (nF (fun _ => 0)), aI cI (q31) 8 (nF (fun _ => 0))] H := hP
  have hD : va_D A [(h0, .inr (0, [.ref q7, .ref q15, .ref q23, .ref q31])), aI cI (q7) 8 (oF (fun _ => 1)), aI cI (q15) 8 (nF (fun _ => 0)), aI cI (q23) 8 (nF (fun _ => 0)), aI cI (q31) 8 (nF (fun _ => 0))] := hD
  obtain ⟨hP, hD⟩ := extI (g := (oF (fun _ => 1))) hP hD 3 rfl (fun i _ => c0_1)
  have hP : va_P G vwCl [(h0, .inr (0, [.ref q7, .ref q15, .ref q23, .ref q31])), aI cI (q7) 8 (oF (fun _ => 1)), aI cI (q15) 8 (nF (fun _ => 0)), aI cI (q23) 8 (oF (fun _ => 1)), aI cI (q31) 8 (nF (fun _ => 0))] H := hP
  have hD : va_D A [(h0, .inr (0, [.ref q7, .ref q15, .ref q23, .ref q31])), aI cI (q7) 8 (oF (fun _ => 1)), aI cI (q15) 8 (nF (fun _ => 0)), aI cI (q23) 8 (oF (fun _ => 1)), aI cI (q31) 8 (nF (fun _ => 0))] := hD
  have hP9 := hP.sub (ws' := [(h0, .inr (0, [.ref q7, .ref q15, .ref q23, .ref q31])), aI cI (q7) 8 (oF (fun _ => 1)), aI cI (q15) 8 (nF (fun _ => 0)), aI cI (q23) 8 (oF (fun _ => 1)), aI cI (q31) 8 (nF (fun _ => 0))]) [0, 1, 2, 3, 4] rfl
  have hD9 := hD.sub (ws' := [(h0, .inr (0, [.ref q7, .ref q15, .ref q23, .ref q31])), aI cI (q7) 8 (oF (fun _ => 1)), aI cI (q15) 8 (nF (fun _ => 0)), aI cI (q23) 8 (oF (fun _ => 1)), aI cI (q31) 8 (nF (fun _ => 0))]) [0, 1, 2, 3, 4] (by decide) rfl
  exact W.vret hx hb hr (fun zt ht zw => ⟨⟨(fun k => [q7, q15, q23, q31].getD k 0), rfl, trivial, by show va_P _ _ _ zt.heap; rw [ht]; exact hP9, by rw [hAe]; exact hD9⟩, by rw [hAe]; exact hS.F ht⟩) hS.2.2 dX0_init_36

set_option maxHeartbeats 1000000 in
set_option maxRecDepth 100000 in
theorem c_X1_init (l : Launch) (G : va_G) (cI cJ : ClassId) (h0 sz : Nat) : Met l yX1_init wsX1_init ({ frames := 1, cells := 0, slots := 0, locals := 12 }) (inP G cI cJ h0 [(h0, .inr (1, [.long 0, .long 0]))] sz) (inQ G [(h0, .inr (1, [.long 0, .long 0]))] sz (fun _ => True) (fun u => [(h0, .inr (1, [.long (lN 0), .long (lN 1)]))])) 0 0 (va_A [(h0, .inr (1, [.long 0, .long 0]))] sz) := by
  refine Met.ofW (cc := cX1_init) (maxL := 1) (ret := none) (by decide) rfl ?_
  intro pg ev s mt args below meth cd s₁ B hml hv
  obtain ⟨rfl, hsz, hP, hD0, hK⟩ := hv
  have hx := B.exec
  have hb := B.bytes
  have hr := B.returns
  have hts := atoms_spec (ws := wsX1_init) B.pre
  have hown : s.vm.findClass RX1 = some mt.cls := findClass_of_methodNamed B.named
  have hin : meth.name = "<init>" := (name_of_methodNamed B.named B.method).1
  subst hsz
  have hD := hD0.self (sz := s.heap.size)
  generalize hAe : va_A [(h0, .inr (1, [.long 0, .long 0]))] s.heap.size = A at hD ⊢
  have hA : ∀ q : Nat, s.heap.size ≤ q → A q := fun q h => by rw [← hAe]; exact Or.inr h
  have hS : va_S A s.heap s.heap [] := va_S.rf
  have hP : va_P G vwCl [(h0, .inr (1, [.long 0, .long 0]))] s.heap := hP
  have fl7 := hts (.fieldLink RX1 7 "SpotRows$Fraction" "upper" "J") (by decide +kernel)
  have hinX1 := (show ∀ w ∈ u_ws RX1 TX1 2, w ∈ wsX1_init by decide +kernel)
  have fl13 := hts (.fieldLink RX1 13 "SpotRows$Fraction" "lower" "J") (by decide +kernel)
  have hl := lv_entry ([.ref h0]) (n := 1) (Nat.le_of_ble_eq_true rfl)
  rw [lg_entry_eq]
  generalize (lg_sl ([.ref h0]) ++ List.replicate (1 - (lg_sl ([.ref h0])).length) Slot.unset).toArray = ls at hl ⊢
  have hl : lv_has ls 1 [(0, .ref h0)] := hl
  refine lv_aload_n hx hb dX1_init_0 rfl (lv_at hl 0 rfl) ?_
  refine W.objInit hx hb hown (hts (.methodLink RX1 1 objectInit) (by decide +kernel)) (hts (.instanceMethod objectInit) (by decide +kernel)) (hts (.code objectInit ⟨#[0xb1]⟩ 1 none) (by decide +kernel)) rfl (by rw [hml]; exact hl.1) rfl dX1_init_1 (Nat.le_of_ble_eq_true rfl) (Nat.le_of_ble_eq_true rfl) ?_
  refine W.eq (g2 := F0 mt 4 ls []) rfl ?_
  refine lv_aload_n hx hb dX1_init_4 rfl (lv_at hl 0 rfl) ?_
  refine lv_lconst (v := lN 0) hx hb dX1_init_5 (by decide) ?_
  refine va_put (D := G) (own := RX1) (ref := "SpotRows$Fraction") (ci := 1) (v := .long (lN 0)) (ty := .long) (C := RX1) (T := TX1) (N := 2) hx hb hts hinX1 tyX1 tyX1_ok nmX1 hown hK.1 hP hD hS 0 rfl rfl 0 (by decide) fl7 (fun _ h9 => h9) rfl (by decide +kernel) rfl rfl (Nat.le_of_ble_eq_true rfl) dX1_init_6 (fun H locs hP hD hS => ?_)
  have hP : va_P G vwCl [(h0, .inr (1, [.long (lN 0), .long 0]))] H := hP
  have hD : va_D A [(h0, .inr (1, [.long (lN 0), .long 0]))] := hD
  refine lv_aload_n hx hb dX1_init_9 rfl (lv_at hl 0 rfl) ?_
  refine lv_lconst (v := lN 1) hx hb dX1_init_10 (by decide) ?_
  refine va_put (D := G) (own := RX1) (ref := "SpotRows$Fraction") (ci := 1) (v := .long (lN 1)) (ty := .long) (C := RX1) (T := TX1) (N := 2) hx hb hts hinX1 tyX1 tyX1_ok nmX1 hown hK.1 hP hD hS 0 rfl rfl 1 (by decide) fl13 (fun _ h9 => h9) rfl (by decide +kernel) rfl rfl (Nat.le_of_ble_eq_true rfl) dX1_init_11 (fun H locs hP hD hS => ?_)
  have hP : va_P G vwCl [(h0, .inr (1, [.long (lN 0), .long (lN 1)]))] H := hP
  have hD : va_D A [(h0, .inr (1, [.long (lN 0), .long (lN 1)]))] := hD
  have hP9 := hP.sub (ws' := [(h0, .inr (1, [.long (lN 0), .long (lN 1)]))]) [0] rfl
  have hD9 := hD.sub (ws' := [(h0, .inr (1, [.long (lN 0), .long (lN 1)]))]) [0] (by decide) rfl
  exact W.vret hx hb hr (fun zt ht zw => ⟨⟨(fun _ => 0), rfl, trivial, by show va_P _ _ _ zt.heap; rw [ht]; exact hP9, by rw [hAe]; exact hD9⟩, by rw [hAe]; exact hS.F ht⟩) hS.2.2 dX1_init_14

set_option maxHeartbeats 1000000 in
set_option maxRecDepth 100000 in
theorem c_X2_init (l : Launch) (G : va_G) (cI cJ : ClassId) (h0 sz : Nat) : Met l yX2_init wsX2_init ({ frames := 1, cells := 2, slots := 480, locals := 12 }) (inP G cI cJ h0 [(h0, .inr (2, [.null, .null, .int 0]))] sz) (inQ G [(h0, .inr (2, [.null, .null, .int 0]))] sz (fun _ => True) (fun u => [(h0, .inr (2, [.ref (u 0), .ref (u 1), .int (nI 0)])), aI cI (u 0) 240 (nF (fun _ => 0)), aI cI (u 1) 240 (nF (fun _ => 0))])) 2 480 (va_A [(h0, .inr (2, [.null, .null, .int 0]))] sz) := by
  refine Met.ofW (cc := cX2_init) (maxL := 1) (ret := none) (by decide) rfl ?_
  intro pg ev s mt args below meth cd s₁ B hml hv
  obtain ⟨rfl, hsz, hP, hD0, hK⟩ := hv
  have hx := B.exec
  have hb := B.bytes
  have hr := B.returns
  have hts := atoms_spec (ws := wsX2_init) B.pre
  have hown : s.vm.findClass RX2 = some mt.cls := findClass_of_methodNamed B.named
  have hin : meth.name = "<init>" := (name_of_methodNamed B.named B.method).1
  subst hsz
  have hD := hD0.self (sz := s.heap.size)
  generalize hAe : va_A [(h0, .inr (2, [.null, .null, .int 0]))] s.heap.size = A at hD ⊢
  have hA : ∀ q : Nat, s.heap.size ≤ q → A q := fun q h => by rw [← hAe]; exact Or.inr h
  have hS : va_S A s.heap s.heap [] := va_S.rf
  have hP : va_P G vwCl [(h0, .inr (2, [.null, .null, .int 0]))] s.heap := hP
  have fl9 := hts (.fieldLink RX2 9 "SpotRows$Ratios" "uppers" "[I") (by decide +kernel)
  have hinX2 := (show ∀ w ∈ u_ws RX2 TX2 3, w ∈ wsX2_init by decide +kernel)
  have fl15 := hts (.fieldLink RX2 15 "SpotRows$Ratios" "lowers" "[I") (by decide +kernel)
  have fl18 := hts (.fieldLink RX2 18 "SpotRows$Ratios" "many" "I") (by decide +kernel)
  have hl := lv_entry ([.ref h0]) (n := 1) (Nat.le_of_ble_eq_true rfl)
  rw [lg_entry_eq]
  generalize (lg_sl ([.ref h0]) ++ List.replicate (1 - (lg_sl ([.ref h0])).length) Slot.unset).toArray = ls at hl ⊢
  have hl : lv_has ls 1 [(0, .ref h0)] := hl
  refine lv_aload_n hx hb dX2_init_0 rfl (lv_at hl 0 rfl) ?_
  refine W.objInit hx hb hown (hts (.methodLink RX2 3 objectInit) (by decide +kernel)) (hts (.instanceMethod objectInit) (by decide +kernel)) (hts (.code objectInit ⟨#[0xb1]⟩ 1 none) (by decide +kernel)) rfl (by rw [hml]; exact hl.1) rfl dX2_init_1 (Nat.le_of_ble_eq_true rfl) (Nat.le_of_ble_eq_true rfl) ?_
  refine W.eq (g2 := F0 mt 4 ls []) rfl ?_
  refine lv_aload_n hx hb dX2_init_4 rfl (lv_at hl 0 rfl) ?_
  refine lv_sipush (v := nI 240) hx hb dX2_init_5 (by decide) ?_
  refine nw_I hx hb (hts (.arrayClass .int) (by decide +kernel)) hK hP hD hS hA (N := 240) (by decide) (Nat.le_of_ble_eq_true rfl) (Nat.le_of_ble_eq_true rfl) dX2_init_8 (fun q8 H hP hD hS => ?_)
  have hP : va_P G vwCl [(h0, .inr (2, [.null, .null, .int 0])), aI cI (q8) 240 (nF (fun _ => 0))] H := hP
  have hD : va_D A [(h0, .inr (2, [.null, .null, .int 0])), aI cI (q8) 240 (nF (fun _ => 0))] := hD
  refine W.widen (k := 1) (n := 240) (Nat.le_of_ble_eq_true rfl) (Nat.le_of_ble_eq_true rfl) ?_
  refine va_putF (D := G) (own := RX2) (ref := "SpotRows$Ratios") (ci := 2) (v := .ref q8) (ty := .array .int) (C := RX2) (T := TX2) (N := 3) hx hb hts hinX2 tyX2 tyX2_ok nmX2 hown hK.1 hP hD hS 0 rfl rfl 0 (by decide) fl9 (fun _ h9 => h9) rfl hin rfl (by decide +kernel) rfl rfl (Nat.le_of_ble_eq_true rfl) dX2_init_10 (fun H locs hP hD hS => ?_)
  have hP : va_P G vwCl [(h0, .inr (2, [.ref q8, .null, .int 0])), aI cI (q8) 240 (nF (fun _ => 0))] H := hP
  have hD : va_D A [(h0, .inr (2, [.ref q8, .null, .int 0])), aI cI (q8) 240 (nF (fun _ => 0))] := hD
  refine lv_aload_n hx hb dX2_init_13 rfl (lv_at hl 0 rfl) ?_
  refine lv_sipush (v := nI 240) hx hb dX2_init_14 (by decide) ?_
  refine nw_I hx hb (hts (.arrayClass .int) (by decide +kernel)) hK hP hD hS hA (N := 240) (by decide) (Nat.le_of_ble_eq_true rfl) (Nat.le_of_ble_eq_true rfl) dX2_init_17 (fun q17 H hP hD hS => ?_)
  have hP : va_P G vwCl [(h0, .inr (2, [.ref q8, .null, .int 0])), aI cI (q8) 240 (nF (fun _ => 0)), aI cI (q17) 240 (nF (fun _ => 0))] H := hP
  have hD : va_D A [(h0, .inr (2, [.ref q8, .null, .int 0])), aI cI (q8) 240 (nF (fun _ => 0)), aI cI (q17) 240 (nF (fun _ => 0))] := hD
  refine W.widen (k := 2) (n := 480) (Nat.le_of_ble_eq_true rfl) (Nat.le_of_ble_eq_true rfl) ?_
  refine va_putF (D := G) (own := RX2) (ref := "SpotRows$Ratios") (ci := 2) (v := .ref q17) (ty := .array .int) (C := RX2) (T := TX2) (N := 3) hx hb hts hinX2 tyX2 tyX2_ok nmX2 hown hK.1 hP hD hS 0 rfl rfl 1 (by decide) fl15 (fun _ h9 => h9) rfl hin rfl (by decide +kernel) rfl rfl (Nat.le_of_ble_eq_true rfl) dX2_init_19 (fun H locs hP hD hS => ?_)
  have hP : va_P G vwCl [(h0, .inr (2, [.ref q8, .ref q17, .int 0])), aI cI (q8) 240 (nF (fun _ => 0)), aI cI (q17) 240 (nF (fun _ => 0))] H := hP
  have hD : va_D A [(h0, .inr (2, [.ref q8, .ref q17, .int 0])), aI cI (q8) 240 (nF (fun _ => 0)), aI cI (q17) 240 (nF (fun _ => 0))] := hD
  refine lv_aload_n hx hb dX2_init_22 rfl (lv_at hl 0 rfl) ?_
  refine lv_iconst (v := nI 0) hx hb dX2_init_23 (by decide) ?_
  refine va_put (D := G) (own := RX2) (ref := "SpotRows$Ratios") (ci := 2) (v := .int (nI 0)) (ty := .int) (C := RX2) (T := TX2) (N := 3) hx hb hts hinX2 tyX2 tyX2_ok nmX2 hown hK.1 hP hD hS 0 rfl rfl 2 (by decide) fl18 (fun _ h9 => h9) rfl (by decide +kernel) rfl rfl (Nat.le_of_ble_eq_true rfl) dX2_init_24 (fun H locs hP hD hS => ?_)
  have hP : va_P G vwCl [(h0, .inr (2, [.ref q8, .ref q17, .int (nI 0)])), aI cI (q8) 240 (nF (fun _ => 0)), aI cI (q17) 240 (nF (fun _ => 0))] H := hP
  have hD : va_D A [(h0, .inr (2, [.ref q8, .ref q17, .int (nI 0)])), aI cI (q8) 240 (nF (fun _ => 0)), aI cI (q17) 240 (nF (fun _ => 0))] := hD
  have hP9 := hP.sub (ws' := [(h0, .inr (2, [.ref q8, .ref q17, .int (nI 0)])), aI cI (q8) 240 (nF (fun _ => 0)), aI cI (q17) 240 (nF (fun _ => 0))]) [0, 1, 2] rfl
  have hD9 := hD.sub (ws' := [(h0, .inr (2, [.ref q8, .ref q17, .int (nI 0)])), aI cI (q8) 240 (nF (fun _ => 0)), aI cI (q17) 240 (nF (fun _ => 0))]) [0, 1, 2] (by decide) rfl
  exact W.vret hx hb hr (fun zt ht zw => ⟨⟨(fun k => [q8, q17].getD k 0), rfl, trivial, by show va_P _ _ _ zt.heap; rw [ht]; exact hP9, by rw [hAe]; exact hD9⟩, by rw [hAe]; exact hS.F ht⟩) hS.2.2 dX2_init_27

set_option maxHeartbeats 1000000 in
set_option maxRecDepth 100000 in
theorem c_X3_init (l : Launch) (G : va_G) (cI cJ : ClassId) (h0 sz : Nat) : Met l yX3_init wsX3_init ({ frames := 1, cells := 2, slots := 48, locals := 12 }) (inP G cI cJ h0 [(h0, .inr (3, [.null, .null, .int 0]))] sz) (inQ G [(h0, .inr (3, [.null, .null, .int 0]))] sz (fun _ => True) (fun u => [(h0, .inr (3, [.ref (u 0), .ref (u 1), .int (nI 3)])), aI cI (u 0) 24 (oF (fun _ => 1)), aI cI (u 1) 24 (oF (fun _ => 1))])) 2 48 (va_A [(h0, .inr (3, [.null, .null, .int 0]))] sz) := by
  refine Met.ofW (cc := cX3_init) (maxL := 1) (ret := none) (by decide) rfl ?_
  intro pg ev s mt args below meth cd s₁ B hml hv
  obtain ⟨rfl, hsz, hP, hD0, hK⟩ := hv
  have hx := B.exec
  have hb := B.bytes
  have hr := B.returns
  have hts := atoms_spec (ws := wsX3_init) B.pre
  have hown : s.vm.findClass RX3 = some mt.cls := findClass_of_methodNamed B.named
  have hin : meth.name = "<init>" := (name_of_methodNamed B.named B.method).1
  subst hsz
  have hD := hD0.self (sz := s.heap.size)
  generalize hAe : va_A [(h0, .inr (3, [.null, .null, .int 0]))] s.heap.size = A at hD ⊢
  have hA : ∀ q : Nat, s.heap.size ≤ q → A q := fun q h => by rw [← hAe]; exact Or.inr h
  have hS : va_S A s.heap s.heap [] := va_S.rf
  have hP : va_P G vwCl [(h0, .inr (3, [.null, .null, .int 0]))] s.heap := hP
  have fl9 := hts (.fieldLink RX3 9 "SpotRows$Row" "values" "[I") (by decide +kernel)
  have hinX3 := (show ∀ w ∈ u_ws RX3 TX3 3, w ∈ wsX3_init by decide +kernel)
  have fl15 := hts (.fieldLink RX3 15 "SpotRows$Row" "smooths" "[I") (by decide +kernel)
  have fl18 := hts (.fieldLink RX3 18 "SpotRows$Row" "enough" "I") (by decide +kernel)
  have hl := lv_entry ([.ref h0]) (n := 1) (Nat.le_of_ble_eq_true rfl)
  rw [lg_entry_eq]
  generalize (lg_sl ([.ref h0]) ++ List.replicate (1 - (lg_sl ([.ref h0])).length) Slot.unset).toArray = ls at hl ⊢
  have hl : lv_has ls 1 [(0, .ref h0)] := hl
  refine lv_aload_n hx hb dX3_init_0 rfl (lv_at hl 0 rfl) ?_
  refine W.objInit hx hb hown (hts (.methodLink RX3 3 objectInit) (by decide +kernel)) (hts (.instanceMethod objectInit) (by decide +kernel)) (hts (.code objectInit ⟨#[0xb1]⟩ 1 none) (by decide +kernel)) rfl (by rw [hml]; exact hl.1) rfl dX3_init_1 (Nat.le_of_ble_eq_true rfl) (Nat.le_of_ble_eq_true rfl) ?_
  refine W.eq (g2 := F0 mt 4 ls []) rfl ?_
  refine lv_aload_n hx hb dX3_init_4 rfl (lv_at hl 0 rfl) ?_
  refine lv_bipush (v := nI 24) hx hb dX3_init_5 (by decide) ?_
  refine nw_I hx hb (hts (.arrayClass .int) (by decide +kernel)) hK hP hD hS hA (N := 24) (by decide) (Nat.le_of_ble_eq_true rfl) (Nat.le_of_ble_eq_true rfl) dX3_init_7 (fun q7 H hP hD hS => ?_)
  have hP : va_P G vwCl [(h0, .inr (3, [.null, .null, .int 0])), aI cI (q7) 24 (nF (fun _ => 0))] H := hP
  have hD : va_D A [(h0, .inr (3, [.null, .null, .int 0])), aI cI (q7) 24 (nF (fun _ => 0))] := hD
  refine W.widen (k := 1) (n := 24) (Nat.le_of_ble_eq_true rfl) (Nat.le_of_ble_eq_true rfl) ?_
  refine va_putF (D := G) (own := RX3) (ref := "SpotRows$Row") (ci := 3) (v := .ref q7) (ty := .array .int) (C := RX3) (T := TX3) (N := 3) hx hb hts hinX3 tyX3 tyX3_ok nmX3 hown hK.1 hP hD hS 0 rfl rfl 0 (by decide) fl9 (fun _ h9 => h9) rfl hin rfl (by decide +kernel) rfl rfl (Nat.le_of_ble_eq_true rfl) dX3_init_9 (fun H locs hP hD hS => ?_)
  have hP : va_P G vwCl [(h0, .inr (3, [.ref q7, .null, .int 0])), aI cI (q7) 24 (nF (fun _ => 0))] H := hP
  have hD : va_D A [(h0, .inr (3, [.ref q7, .null, .int 0])), aI cI (q7) 24 (nF (fun _ => 0))] := hD
  refine lv_aload_n hx hb dX3_init_12 rfl (lv_at hl 0 rfl) ?_
  refine lv_bipush (v := nI 24) hx hb dX3_init_13 (by decide) ?_
  refine nw_I hx hb (hts (.arrayClass .int) (by decide +kernel)) hK hP hD hS hA (N := 24) (by decide) (Nat.le_of_ble_eq_true rfl) (Nat.le_of_ble_eq_true rfl) dX3_init_15 (fun q15 H hP hD hS => ?_)
  have hP : va_P G vwCl [(h0, .inr (3, [.ref q7, .null, .int 0])), aI cI (q7) 24 (nF (fun _ => 0)), aI cI (q15) 24 (nF (fun _ => 0))] H := hP
  have hD : va_D A [(h0, .inr (3, [.ref q7, .null, .int 0])), aI cI (q7) 24 (nF (fun _ => 0)), aI cI (q15) 24 (nF (fun _ => 0))] := hD
  refine W.widen (k := 2) (n := 48) (Nat.le_of_ble_eq_true rfl) (Nat.le_of_ble_eq_true rfl) ?_
  refine va_putF (D := G) (own := RX3) (ref := "SpotRows$Row") (ci := 3) (v := .ref q15) (ty := .array .int) (C := RX3) (T := TX3) (N := 3) hx hb hts hinX3 tyX3 tyX3_ok nmX3 hown hK.1 hP hD hS 0 rfl rfl 1 (by decide) fl15 (fun _ h9 => h9) rfl hin rfl (by decide +kernel) rfl rfl (Nat.le_of_ble_eq_true rfl) dX3_init_17 (fun H locs hP hD hS => ?_)
  have hP : va_P G vwCl [(h0, .inr (3, [.ref q7, .ref q15, .int 0])), aI cI (q7) 24 (nF (fun _ => 0)), aI cI (q15) 24 (nF (fun _ => 0))] H := hP
  have hD : va_D A [(h0, .inr (3, [.ref q7, .ref q15, .int 0])), aI cI (q7) 24 (nF (fun _ => 0)), aI cI (q15) 24 (nF (fun _ => 0))] := hD
  refine lv_aload_n hx hb dX3_init_20 rfl (lv_at hl 0 rfl) ?_
  refine lv_iconst (v := nI 3) hx hb dX3_init_21 (by decide) ?_
  refine va_put (D := G) (own := RX3) (ref := "SpotRows$Row") (ci := 3) (v := .int (nI 3)) (ty := .int) (C := RX3) (T := TX3) (N := 3) hx hb hts hinX3 tyX3 tyX3_ok nmX3 hown hK.1 hP hD hS 0 rfl rfl 2 (by decide) fl18 (fun _ h9 => h9) rfl (by decide +kernel) rfl rfl (Nat.le_of_ble_eq_true rfl) dX3_init_22 (fun H locs hP hD hS => ?_)
  have hP : va_P G vwCl [(h0, .inr (3, [.ref q7, .ref q15, .int (nI 3)])), aI cI (q7) 24 (nF (fun _ => 0)), aI cI (q15) 24 (nF (fun _ => 0))] H := hP
  have hD : va_D A [(h0, .inr (3, [.ref q7, .ref q15, .int (nI 3)])), aI cI (q7) 24 (nF (fun _ => 0)), aI cI (q15) 24 (nF (fun _ => 0))] := hD
  obtain ⟨hP, hD⟩ := extI (g := (oF (fun _ => 1))) hP hD 1 rfl (fun i _ => c0_1)
  have hP : va_P G vwCl [(h0, .inr (3, [.ref q7, .ref q15, .int (nI 3)])), aI cI (q7) 24 (oF (fun _ => 1)), aI cI (q15) 24 (nF (fun _ => 0))] H := hP
  have hD : va_D A [(h0, .inr (3, [.ref q7, .ref q15, .int (nI 3)])), aI cI (q7) 24 (oF (fun _ => 1)), aI cI (q15) 24 (nF (fun _ => 0))] := hD
  obtain ⟨hP, hD⟩ := extI (g := (oF (fun _ => 1))) hP hD 2 rfl (fun i _ => c0_1)
  have hP : va_P G vwCl [(h0, .inr (3, [.ref q7, .ref q15, .int (nI 3)])), aI cI (q7) 24 (oF (fun _ => 1)), aI cI (q15) 24 (oF (fun _ => 1))] H := hP
  have hD : va_D A [(h0, .inr (3, [.ref q7, .ref q15, .int (nI 3)])), aI cI (q7) 24 (oF (fun _ => 1)), aI cI (q15) 24 (oF (fun _ => 1))] := hD
  have hP9 := hP.sub (ws' := [(h0, .inr (3, [.ref q7, .ref q15, .int (nI 3)])), aI cI (q7) 24 (oF (fun _ => 1)), aI cI (q15) 24 (oF (fun _ => 1))]) [0, 1, 2] rfl
  have hD9 := hD.sub (ws' := [(h0, .inr (3, [.ref q7, .ref q15, .int (nI 3)])), aI cI (q7) 24 (oF (fun _ => 1)), aI cI (q15) 24 (oF (fun _ => 1))]) [0, 1, 2] (by decide) rfl
  exact W.vret hx hb hr (fun zt ht zw => ⟨⟨(fun k => [q7, q15].getD k 0), rfl, trivial, by show va_P _ _ _ zt.heap; rw [ht]; exact hP9, by rw [hAe]; exact hD9⟩, by rw [hAe]; exact hS.F ht⟩) hS.2.2 dX3_init_25

set_option maxHeartbeats 1000000 in
set_option maxRecDepth 100000 in
theorem c_X4_init (l : Launch) (G : va_G) (cI cJ : ClassId) (h0 sz : Nat) : Met l yX4_init wsX4_init ({ frames := 1, cells := 5, slots := 105, locals := 12 }) (inP G cI cJ h0 [(h0, .inr (4, [.null, .null, .null, .null, .null, .int 0]))] sz) (inQ G [(h0, .inr (4, [.null, .null, .null, .null, .null, .int 0]))] sz (fun _ => True) (fun u => [(h0, .inr (4, [.ref (u 0), .ref (u 1), .ref (u 2), .ref (u 3), .ref (u 4), .int (nI 0)])), aI cI (u 0) 21 (nF (fun _ => 0)), aI cI (u 1) 21 (nF (fun _ => 0)), aI cI (u 2) 21 (nF (fun _ => 0)), aI cI (u 3) 21 (nF (fun _ => 0)), aI cI (u 4) 21 (nF (fun _ => 0))])) 5 105 (va_A [(h0, .inr (4, [.null, .null, .null, .null, .null, .int 0]))] sz) := by
  refine Met.ofW (cc := cX4_init) (maxL := 1) (ret := none) (by decide) rfl ?_
  intro pg ev s mt args below meth cd s₁ B hml hv
  obtain ⟨rfl, hsz, hP, hD0, hK⟩ := hv
  have hx := B.exec
  have hb := B.bytes
  have hr := B.returns
  have hts := atoms_spec (ws := wsX4_init) B.pre
  have hown : s.vm.findClass RX4 = some mt.cls := findClass_of_methodNamed B.named
  have hin : meth.name = "<init>" := (name_of_methodNamed B.named B.method).1
  subst hsz
  have hD := hD0.self (sz := s.heap.size)
  generalize hAe : va_A [(h0, .inr (4, [.null, .null, .null, .null, .null, .int 0]))] s.heap.size = A at hD ⊢
  have hA : ∀ q : Nat, s.heap.size ≤ q → A q := fun q h => by rw [← hAe]; exact Or.inr h
  have hS : va_S A s.heap s.heap [] := va_S.rf
  have hP : va_P G vwCl [(h0, .inr (4, [.null, .null, .null, .null, .null, .int 0]))] s.heap := hP
  have fl9 := hts (.fieldLink RX4 9 "SpotRows$Steps" "levelSums" "[I") (by decide +kernel)
  have hinX4 := (show ∀ w ∈ u_ws RX4 TX4 6, w ∈ wsX4_init by decide +kernel)
  have fl15 := hts (.fieldLink RX4 15 "SpotRows$Steps" "levelDays" "[I") (by decide +kernel)
  have fl18 := hts (.fieldLink RX4 18 "SpotRows$Steps" "blockSums" "[I") (by decide +kernel)
  have fl21 := hts (.fieldLink RX4 21 "SpotRows$Steps" "blockDays" "[I") (by decide +kernel)
  have fl24 := hts (.fieldLink RX4 24 "SpotRows$Steps" "blockFirsts" "[I") (by decide +kernel)
  have fl27 := hts (.fieldLink RX4 27 "SpotRows$Steps" "blocks" "I") (by decide +kernel)
  have hl := lv_entry ([.ref h0]) (n := 1) (Nat.le_of_ble_eq_true rfl)
  rw [lg_entry_eq]
  generalize (lg_sl ([.ref h0]) ++ List.replicate (1 - (lg_sl ([.ref h0])).length) Slot.unset).toArray = ls at hl ⊢
  have hl : lv_has ls 1 [(0, .ref h0)] := hl
  refine lv_aload_n hx hb dX4_init_0 rfl (lv_at hl 0 rfl) ?_
  refine W.objInit hx hb hown (hts (.methodLink RX4 3 objectInit) (by decide +kernel)) (hts (.instanceMethod objectInit) (by decide +kernel)) (hts (.code objectInit ⟨#[0xb1]⟩ 1 none) (by decide +kernel)) rfl (by rw [hml]; exact hl.1) rfl dX4_init_1 (Nat.le_of_ble_eq_true rfl) (Nat.le_of_ble_eq_true rfl) ?_
  refine W.eq (g2 := F0 mt 4 ls []) rfl ?_
  refine lv_aload_n hx hb dX4_init_4 rfl (lv_at hl 0 rfl) ?_
  refine lv_bipush (v := nI 21) hx hb dX4_init_5 (by decide) ?_
  refine nw_I hx hb (hts (.arrayClass .int) (by decide +kernel)) hK hP hD hS hA (N := 21) (by decide) (Nat.le_of_ble_eq_true rfl) (Nat.le_of_ble_eq_true rfl) dX4_init_7 (fun q7 H hP hD hS => ?_)
  have hP : va_P G vwCl [(h0, .inr (4, [.null, .null, .null, .null, .null, .int 0])), aI cI (q7) 21 (nF (fun _ => 0))] H := hP
  have hD : va_D A [(h0, .inr (4, [.null, .null, .null, .null, .null, .int 0])), aI cI (q7) 21 (nF (fun _ => 0))] := hD
  refine W.widen (k := 1) (n := 21) (Nat.le_of_ble_eq_true rfl) (Nat.le_of_ble_eq_true rfl) ?_
  refine va_putF (D := G) (own := RX4) (ref := "SpotRows$Steps") (ci := 4) (v := .ref q7) (ty := .array .int) (C := RX4) (T := TX4) (N := 6) hx hb hts hinX4 tyX4 tyX4_ok nmX4 hown hK.1 hP hD hS 0 rfl rfl 0 (by decide) fl9 (fun _ h9 => h9) rfl hin rfl (by decide +kernel) rfl rfl (Nat.le_of_ble_eq_true rfl) dX4_init_9 (fun H locs hP hD hS => ?_)
  have hP : va_P G vwCl [(h0, .inr (4, [.ref q7, .null, .null, .null, .null, .int 0])), aI cI (q7) 21 (nF (fun _ => 0))] H := hP
  have hD : va_D A [(h0, .inr (4, [.ref q7, .null, .null, .null, .null, .int 0])), aI cI (q7) 21 (nF (fun _ => 0))] := hD
  refine lv_aload_n hx hb dX4_init_12 rfl (lv_at hl 0 rfl) ?_
  refine lv_bipush (v := nI 21) hx hb dX4_init_13 (by decide) ?_
  refine nw_I hx hb (hts (.arrayClass .int) (by decide +kernel)) hK hP hD hS hA (N := 21) (by decide) (Nat.le_of_ble_eq_true rfl) (Nat.le_of_ble_eq_true rfl) dX4_init_15 (fun q15 H hP hD hS => ?_)
  have hP : va_P G vwCl [(h0, .inr (4, [.ref q7, .null, .null, .null, .null, .int 0])), aI cI (q7) 21 (nF (fun _ => 0)), aI cI (q15) 21 (nF (fun _ => 0))] H := hP
  have hD : va_D A [(h0, .inr (4, [.ref q7, .null, .null, .null, .null, .int 0])), aI cI (q7) 21 (nF (fun _ => 0)), aI cI (q15) 21 (nF (fun _ => 0))] := hD
  refine W.widen (k := 2) (n := 42) (Nat.le_of_ble_eq_true rfl) (Nat.le_of_ble_eq_true rfl) ?_
  refine va_putF (D := G) (own := RX4) (ref := "SpotRows$Steps") (ci := 4) (v := .ref q15) (ty := .array .int) (C := RX4) (T := TX4) (N := 6) hx hb hts hinX4 tyX4 tyX4_ok nmX4 hown hK.1 hP hD hS 0 rfl rfl 1 (by decide) fl15 (fun _ h9 => h9) rfl hin rfl (by decide +kernel) rfl rfl (Nat.le_of_ble_eq_true rfl) dX4_init_17 (fun H locs hP hD hS => ?_)
  have hP : va_P G vwCl [(h0, .inr (4, [.ref q7, .ref q15, .null, .null, .null, .int 0])), aI cI (q7) 21 (nF (fun _ => 0)), aI cI (q15) 21 (nF (fun _ => 0))] H := hP
  have hD : va_D A [(h0, .inr (4, [.ref q7, .ref q15, .null, .null, .null, .int 0])), aI cI (q7) 21 (nF (fun _ => 0)), aI cI (q15) 21 (nF (fun _ => 0))] := hD
  refine lv_aload_n hx hb dX4_init_20 rfl (lv_at hl 0 rfl) ?_
  refine lv_bipush (v := nI 21) hx hb dX4_init_21 (by decide) ?_
  refine nw_I hx hb (hts (.arrayClass .int) (by decide +kernel)) hK hP hD hS hA (N := 21) (by decide) (Nat.le_of_ble_eq_true rfl) (Nat.le_of_ble_eq_true rfl) dX4_init_23 (fun q23 H hP hD hS => ?_)
  have hP : va_P G vwCl [(h0, .inr (4, [.ref q7, .ref q15, .null, .null, .null, .int 0])), aI cI (q7) 21 (nF (fun _ => 0)), aI cI (q15) 21 (nF (fun _ => 0)), aI cI (q23) 21 (nF (fun _ => 0))] H := hP
  have hD : va_D A [(h0, .inr (4, [.ref q7, .ref q15, .null, .null, .null, .int 0])), aI cI (q7) 21 (nF (fun _ => 0)), aI cI (q15) 21 (nF (fun _ => 0)), aI cI (q23) 21 (nF (fun _ => 0))] := hD
  refine W.widen (k := 3) (n := 63) (Nat.le_of_ble_eq_true rfl) (Nat.le_of_ble_eq_true rfl) ?_
  refine va_putF (D := G) (own := RX4) (ref := "SpotRows$Steps") (ci := 4) (v := .ref q23) (ty := .array .int) (C := RX4) (T := TX4) (N := 6) hx hb hts hinX4 tyX4 tyX4_ok nmX4 hown hK.1 hP hD hS 0 rfl rfl 2 (by decide) fl18 (fun _ h9 => h9) rfl hin rfl (by decide +kernel) rfl rfl (Nat.le_of_ble_eq_true rfl) dX4_init_25 (fun H locs hP hD hS => ?_)
  have hP : va_P G vwCl [(h0, .inr (4, [.ref q7, .ref q15, .ref q23, .null, .null, .int 0])), aI cI (q7) 21 (nF (fun _ => 0)), aI cI (q15) 21 (nF (fun _ => 0)), aI cI (q23) 21 (nF (fun _ => 0))] H := hP
  have hD : va_D A [(h0, .inr (4, [.ref q7, .ref q15, .ref q23, .null, .null, .int 0])), aI cI (q7) 21 (nF (fun _ => 0)), aI cI (q15) 21 (nF (fun _ => 0)), aI cI (q23) 21 (nF (fun _ => 0))] := hD
  refine lv_aload_n hx hb dX4_init_28 rfl (lv_at hl 0 rfl) ?_
  refine lv_bipush (v := nI 21) hx hb dX4_init_29 (by decide) ?_
  refine nw_I hx hb (hts (.arrayClass .int) (by decide +kernel)) hK hP hD hS hA (N := 21) (by decide) (Nat.le_of_ble_eq_true rfl) (Nat.le_of_ble_eq_true rfl) dX4_init_31 (fun q31 H hP hD hS => ?_)
  have hP : va_P G vwCl [(h0, .inr (4, [.ref q7, .ref q15, .ref q23, .null, .null, .int 0])), aI cI (q7) 21 (nF (fun _ => 0)), aI cI (q15) 21 (nF (fun _ => 0)), aI cI (q23) 21 (nF (fun _ => 0)), aI cI (q31) 21 (nF (fun _ => 0))] H := hP
  have hD : va_D A [(h0, .inr (4, [.ref q7, .ref q15, .ref q23, .null, .null, .int 0])), aI cI (q7) 21 (nF (fun _ => 0)), aI cI (q15) 21 (nF (fun _ => 0)), aI cI (q23) 21 (nF (fun _ => 0)), aI cI (q31) 21 (nF (fun _ => 0))] := hD
  refine W.widen (k := 4) (n := 84) (Nat.le_of_ble_eq_true rfl) (Nat.le_of_ble_eq_true rfl) ?_
  refine va_putF (D := G) (own := RX4) (ref := "SpotRows$Steps") (ci := 4) (v := .ref q31) (ty := .array .int) (C := RX4) (T := TX4) (N := 6) hx hb hts hinX4 tyX4 tyX4_ok nmX4 hown hK.1 hP hD hS 0 rfl rfl 3 (by decide) fl21 (fun _ h9 => h9) rfl hin rfl (by decide +kernel) rfl rfl (Nat.le_of_ble_eq_true rfl) dX4_init_33 (fun H locs hP hD hS => ?_)
  have hP : va_P G vwCl [(h0, .inr (4, [.ref q7, .ref q15, .ref q23, .ref q31, .null, .int 0])), aI cI (q7) 21 (nF (fun _ => 0)), aI cI (q15) 21 (nF (fun _ => 0)), aI cI (q23) 21 (nF (fun _ => 0)), aI cI (q31) 21 (nF (fun _ => 0))] H := hP
  have hD : va_D A [(h0, .inr (4, [.ref q7, .ref q15, .ref q23, .ref q31, .null, .int 0])), aI cI (q7) 21 (nF (fun _ => 0)), aI cI (q15) 21 (nF (fun _ => 0)), aI cI (q23) 21 (nF (fun _ => 0)), aI cI (q31) 21 (nF (fun _ => 0))] := hD
  refine lv_aload_n hx hb dX4_init_36 rfl (lv_at hl 0 rfl) ?_
  refine lv_bipush (v := nI 21) hx hb dX4_init_37 (by decide) ?_
  refine nw_I hx hb (hts (.arrayClass .int) (by decide +kernel)) hK hP hD hS hA (N := 21) (by decide) (Nat.le_of_ble_eq_true rfl) (Nat.le_of_ble_eq_true rfl) dX4_init_39 (fun q39 H hP hD hS => ?_)
  have hP : va_P G vwCl [(h0, .inr (4, [.ref q7, .ref q15, .ref q23, .ref q31, .null, .int 0])), aI cI (q7) 21 (nF (fun _ => 0)), aI cI (q15) 21 (nF (fun _ => 0)), aI cI (q23) 21 (nF (fun _ => 0)), aI cI (q31) 21 (nF (fun _ => 0)), aI cI (q39) 21 (nF (fun _ => 0))] H := hP
  have hD : va_D A [(h0, .inr (4, [.ref q7, .ref q15, .ref q23, .ref q31, .null, .int 0])), aI cI (q7) 21 (nF (fun _ => 0)), aI cI (q15) 21 (nF (fun _ => 0)), aI cI (q23) 21 (nF (fun _ => 0)), aI cI (q31) 21 (nF (fun _ => 0)), aI cI (q39) 21 (nF (fun _ => 0))] := hD
  refine W.widen (k := 5) (n := 105) (Nat.le_of_ble_eq_true rfl) (Nat.le_of_ble_eq_true rfl) ?_
  refine va_putF (D := G) (own := RX4) (ref := "SpotRows$Steps") (ci := 4) (v := .ref q39) (ty := .array .int) (C := RX4) (T := TX4) (N := 6) hx hb hts hinX4 tyX4 tyX4_ok nmX4 hown hK.1 hP hD hS 0 rfl rfl 4 (by decide) fl24 (fun _ h9 => h9) rfl hin rfl (by decide +kernel) rfl rfl (Nat.le_of_ble_eq_true rfl) dX4_init_41 (fun H locs hP hD hS => ?_)
  have hP : va_P G vwCl [(h0, .inr (4, [.ref q7, .ref q15, .ref q23, .ref q31, .ref q39, .int 0])), aI cI (q7) 21 (nF (fun _ => 0)), aI cI (q15) 21 (nF (fun _ => 0)), aI cI (q23) 21 (nF (fun _ => 0)), aI cI (q31) 21 (nF (fun _ => 0)), aI cI (q39) 21 (nF (fun _ => 0))] H := hP
  have hD : va_D A [(h0, .inr (4, [.ref q7, .ref q15, .ref q23, .ref q31, .ref q39, .int 0])), aI cI (q7) 21 (nF (fun _ => 0)), aI cI (q15) 21 (nF (fun _ => 0)), aI cI (q23) 21 (nF (fun _ => 0)), aI cI (q31) 21 (nF (fun _ => 0)), aI cI (q39) 21 (nF (fun _ => 0))] := hD
  refine lv_aload_n hx hb dX4_init_44 rfl (lv_at hl 0 rfl) ?_
  refine lv_iconst (v := nI 0) hx hb dX4_init_45 (by decide) ?_
  refine va_put (D := G) (own := RX4) (ref := "SpotRows$Steps") (ci := 4) (v := .int (nI 0)) (ty := .int) (C := RX4) (T := TX4) (N := 6) hx hb hts hinX4 tyX4 tyX4_ok nmX4 hown hK.1 hP hD hS 0 rfl rfl 5 (by decide) fl27 (fun _ h9 => h9) rfl (by decide +kernel) rfl rfl (Nat.le_of_ble_eq_true rfl) dX4_init_46 (fun H locs hP hD hS => ?_)
  have hP : va_P G vwCl [(h0, .inr (4, [.ref q7, .ref q15, .ref q23, .ref q31, .ref q39, .int (nI 0)])), aI cI (q7) 21 (nF (fun _ => 0)), aI cI (q15) 21 (nF (fun _ => 0)), aI cI (q23) 21 (nF (fun _ => 0)), aI cI (q31) 21 (nF (fun _ => 0)), aI cI (q39) 21 (nF (fun _ => 0))] H := hP
  have hD : va_D A [(h0, .inr (4, [.ref q7, .ref q15, .ref q23, .ref q31, .ref q39, .int (nI 0)])), aI cI (q7) 21 (nF (fun _ => 0)), aI cI (q15) 21 (nF (fun _ => 0)), aI cI (q23) 21 (nF (fun _ => 0)), aI cI (q31) 21 (nF (fun _ => 0)), aI cI (q39) 21 (nF (fun _ => 0))] := hD
  have hP9 := hP.sub (ws' := [(h0, .inr (4, [.ref q7, .ref q15, .ref q23, .ref q31, .ref q39, .int (nI 0)])), aI cI (q7) 21 (nF (fun _ => 0)), aI cI (q15) 21 (nF (fun _ => 0)), aI cI (q23) 21 (nF (fun _ => 0)), aI cI (q31) 21 (nF (fun _ => 0)), aI cI (q39) 21 (nF (fun _ => 0))]) [0, 1, 2, 3, 4, 5] rfl
  have hD9 := hD.sub (ws' := [(h0, .inr (4, [.ref q7, .ref q15, .ref q23, .ref q31, .ref q39, .int (nI 0)])), aI cI (q7) 21 (nF (fun _ => 0)), aI cI (q15) 21 (nF (fun _ => 0)), aI cI (q23) 21 (nF (fun _ => 0)), aI cI (q31) 21 (nF (fun _ => 0)), aI cI (q39) 21 (nF (fun _ => 0))]) [0, 1, 2, 3, 4, 5] (by decide) rfl
  exact W.vret hx hb hr (fun zt ht zw => ⟨⟨(fun k => [q7, q15, q23, q31, q39].getD k 0), rfl, trivial, by show va_P _ _ _ zt.heap; rw [ht]; exact hP9, by rw [hAe]; exact hD9⟩, by rw [hAe]; exact hS.F ht⟩) hS.2.2 dX4_init_49

set_option maxHeartbeats 1000000 in
set_option maxRecDepth 100000 in
theorem c_X5_init (l : Launch) (G : va_G) (cI cJ : ClassId) (h0 sz : Nat) : Met l yX5_init wsX5_init ({ frames := 1, cells := 3, slots := 2048, locals := 23 }) (inP G cI cJ h0 [(h0, .inr (5, [.null, .null, .null, .int 0, .int 0]))] sz) (inQ G [(h0, .inr (5, [.null, .null, .null, .int 0, .int 0]))] sz (fun _ => True) (fun u => [(h0, .inr (5, [.ref (u 0), .ref (u 1), .ref (u 2), .int (nI 0), .int (nI 10)])), aI cI (u 0) 1920 (oF (fun _ => 0)), aI cI (u 1) 64 (nF (fun _ => 0)), aI cI (u 2) 64 (nF (fun _ => 0))])) 3 2048 (va_A [(h0, .inr (5, [.null, .null, .null, .int 0, .int 0]))] sz) := by
  refine Met.ofW (cc := cX5_init) (maxL := 1) (ret := none) (by decide) rfl ?_
  intro pg ev s mt args below meth cd s₁ B hml hv
  obtain ⟨rfl, hsz, hP, hD0, hK⟩ := hv
  have hx := B.exec
  have hb := B.bytes
  have hr := B.returns
  have hts := atoms_spec (ws := wsX5_init) B.pre
  have hown : s.vm.findClass RX5 = some mt.cls := findClass_of_methodNamed B.named
  have hin : meth.name = "<init>" := (name_of_methodNamed B.named B.method).1
  subst hsz
  have hD := hD0.self (sz := s.heap.size)
  generalize hAe : va_A [(h0, .inr (5, [.null, .null, .null, .int 0, .int 0]))] s.heap.size = A at hD ⊢
  have hA : ∀ q : Nat, s.heap.size ≤ q → A q := fun q h => by rw [← hAe]; exact Or.inr h
  have hS : va_S A s.heap s.heap [] := va_S.rf
  have hP : va_P G vwCl [(h0, .inr (5, [.null, .null, .null, .int 0, .int 0]))] s.heap := hP
  have fl9 := hts (.fieldLink RX5 9 "SpotRows$Tellings" "codes" "[I") (by decide +kernel)
  have hinX5 := (show ∀ w ∈ u_ws RX5 TX5 5, w ∈ wsX5_init by decide +kernel)
  have fl15 := hts (.fieldLink RX5 15 "SpotRows$Tellings" "bothDays" "[I") (by decide +kernel)
  have fl18 := hts (.fieldLink RX5 18 "SpotRows$Tellings" "bothSums" "[I") (by decide +kernel)
  have fl27 := hts (.fieldLink RX5 27 "SpotRows$Tellings" "eyes" "I") (by decide +kernel)
  have fl31 := hts (.fieldLink RX5 31 "SpotRows$Tellings" "least" "I") (by decide +kernel)
  have hl := lv_entry ([.ref h0]) (n := 1) (Nat.le_of_ble_eq_true rfl)
  rw [lg_entry_eq]
  generalize (lg_sl ([.ref h0]) ++ List.replicate (1 - (lg_sl ([.ref h0])).length) Slot.unset).toArray = ls at hl ⊢
  have hl : lv_has ls 1 [(0, .ref h0)] := hl
  refine lv_aload_n hx hb dX5_init_0 rfl (lv_at hl 0 rfl) ?_
  refine W.objInit hx hb hown (hts (.methodLink RX5 3 objectInit) (by decide +kernel)) (hts (.instanceMethod objectInit) (by decide +kernel)) (hts (.code objectInit ⟨#[0xb1]⟩ 1 none) (by decide +kernel)) rfl (by rw [hml]; exact hl.1) rfl dX5_init_1 (Nat.le_of_ble_eq_true rfl) (Nat.le_of_ble_eq_true rfl) ?_
  refine W.eq (g2 := F0 mt 4 ls []) rfl ?_
  refine lv_aload_n hx hb dX5_init_4 rfl (lv_at hl 0 rfl) ?_
  refine lv_sipush (v := nI 1920) hx hb dX5_init_5 (by decide) ?_
  refine nw_I hx hb (hts (.arrayClass .int) (by decide +kernel)) hK hP hD hS hA (N := 1920) (by decide) (Nat.le_of_ble_eq_true rfl) (Nat.le_of_ble_eq_true rfl) dX5_init_8 (fun q8 H hP hD hS => ?_)
  have hP : va_P G vwCl [(h0, .inr (5, [.null, .null, .null, .int 0, .int 0])), aI cI (q8) 1920 (nF (fun _ => 0))] H := hP
  have hD : va_D A [(h0, .inr (5, [.null, .null, .null, .int 0, .int 0])), aI cI (q8) 1920 (nF (fun _ => 0))] := hD
  refine W.widen (k := 1) (n := 1920) (Nat.le_of_ble_eq_true rfl) (Nat.le_of_ble_eq_true rfl) ?_
  refine va_putF (D := G) (own := RX5) (ref := "SpotRows$Tellings") (ci := 5) (v := .ref q8) (ty := .array .int) (C := RX5) (T := TX5) (N := 5) hx hb hts hinX5 tyX5 tyX5_ok nmX5 hown hK.1 hP hD hS 0 rfl rfl 0 (by decide) fl9 (fun _ h9 => h9) rfl hin rfl (by decide +kernel) rfl rfl (Nat.le_of_ble_eq_true rfl) dX5_init_10 (fun H locs hP hD hS => ?_)
  have hP : va_P G vwCl [(h0, .inr (5, [.ref q8, .null, .null, .int 0, .int 0])), aI cI (q8) 1920 (nF (fun _ => 0))] H := hP
  have hD : va_D A [(h0, .inr (5, [.ref q8, .null, .null, .int 0, .int 0])), aI cI (q8) 1920 (nF (fun _ => 0))] := hD
  refine lv_aload_n hx hb dX5_init_13 rfl (lv_at hl 0 rfl) ?_
  refine lv_bipush (v := nI 64) hx hb dX5_init_14 (by decide) ?_
  refine nw_I hx hb (hts (.arrayClass .int) (by decide +kernel)) hK hP hD hS hA (N := 64) (by decide) (Nat.le_of_ble_eq_true rfl) (Nat.le_of_ble_eq_true rfl) dX5_init_16 (fun q16 H hP hD hS => ?_)
  have hP : va_P G vwCl [(h0, .inr (5, [.ref q8, .null, .null, .int 0, .int 0])), aI cI (q8) 1920 (nF (fun _ => 0)), aI cI (q16) 64 (nF (fun _ => 0))] H := hP
  have hD : va_D A [(h0, .inr (5, [.ref q8, .null, .null, .int 0, .int 0])), aI cI (q8) 1920 (nF (fun _ => 0)), aI cI (q16) 64 (nF (fun _ => 0))] := hD
  refine W.widen (k := 2) (n := 1984) (Nat.le_of_ble_eq_true rfl) (Nat.le_of_ble_eq_true rfl) ?_
  refine va_putF (D := G) (own := RX5) (ref := "SpotRows$Tellings") (ci := 5) (v := .ref q16) (ty := .array .int) (C := RX5) (T := TX5) (N := 5) hx hb hts hinX5 tyX5 tyX5_ok nmX5 hown hK.1 hP hD hS 0 rfl rfl 1 (by decide) fl15 (fun _ h9 => h9) rfl hin rfl (by decide +kernel) rfl rfl (Nat.le_of_ble_eq_true rfl) dX5_init_18 (fun H locs hP hD hS => ?_)
  have hP : va_P G vwCl [(h0, .inr (5, [.ref q8, .ref q16, .null, .int 0, .int 0])), aI cI (q8) 1920 (nF (fun _ => 0)), aI cI (q16) 64 (nF (fun _ => 0))] H := hP
  have hD : va_D A [(h0, .inr (5, [.ref q8, .ref q16, .null, .int 0, .int 0])), aI cI (q8) 1920 (nF (fun _ => 0)), aI cI (q16) 64 (nF (fun _ => 0))] := hD
  refine lv_aload_n hx hb dX5_init_21 rfl (lv_at hl 0 rfl) ?_
  refine lv_bipush (v := nI 64) hx hb dX5_init_22 (by decide) ?_
  refine nw_I hx hb (hts (.arrayClass .int) (by decide +kernel)) hK hP hD hS hA (N := 64) (by decide) (Nat.le_of_ble_eq_true rfl) (Nat.le_of_ble_eq_true rfl) dX5_init_24 (fun q24 H hP hD hS => ?_)
  have hP : va_P G vwCl [(h0, .inr (5, [.ref q8, .ref q16, .null, .int 0, .int 0])), aI cI (q8) 1920 (nF (fun _ => 0)), aI cI (q16) 64 (nF (fun _ => 0)), aI cI (q24) 64 (nF (fun _ => 0))] H := hP
  have hD : va_D A [(h0, .inr (5, [.ref q8, .ref q16, .null, .int 0, .int 0])), aI cI (q8) 1920 (nF (fun _ => 0)), aI cI (q16) 64 (nF (fun _ => 0)), aI cI (q24) 64 (nF (fun _ => 0))] := hD
  refine W.widen (k := 3) (n := 2048) (Nat.le_of_ble_eq_true rfl) (Nat.le_of_ble_eq_true rfl) ?_
  refine va_putF (D := G) (own := RX5) (ref := "SpotRows$Tellings") (ci := 5) (v := .ref q24) (ty := .array .int) (C := RX5) (T := TX5) (N := 5) hx hb hts hinX5 tyX5 tyX5_ok nmX5 hown hK.1 hP hD hS 0 rfl rfl 2 (by decide) fl18 (fun _ h9 => h9) rfl hin rfl (by decide +kernel) rfl rfl (Nat.le_of_ble_eq_true rfl) dX5_init_26 (fun H locs hP hD hS => ?_)
  have hP : va_P G vwCl [(h0, .inr (5, [.ref q8, .ref q16, .ref q24, .int 0, .int 0])), aI cI (q8) 1920 (nF (fun _ => 0)), aI cI (q16) 64 (nF (fun _ => 0)), aI cI (q24) 64 (nF (fun _ => 0))] H := hP
  have hD : va_D A [(h0, .inr (5, [.ref q8, .ref q16, .ref q24, .int 0, .int 0])), aI cI (q8) 1920 (nF (fun _ => 0)), aI cI (q16) 64 (nF (fun _ => 0)), aI cI (q24) 64 (nF (fun _ => 0))] := hD
  refine lv_aload_n hx hb dX5_init_29 rfl (lv_at hl 0 rfl) ?_
  refine va_get (D := G) (own := RX5) (ref := "SpotRows$Tellings") (ci := 5) (v := .ref q8) (C := RX5) (T := TX5) (N := 5) hx hb hts hinX5 hown hK.1 hP 0 rfl rfl 0 (by decide) fl9 (fun _ h9 => h9) rfl dX5_init_30 ?_
  refine lv_iconst (v := (-1)) hx hb dX5_init_33 (by decide) ?_
  refine crw_v (free := fun _ => True) (va_runS (As := [.ref q8, .int (-1)]) (rest := []) ⟨hx, hb, hml, hown, hts⟩ (c_J7_fill_53178 l G cI cJ (q := q8) (n := 1920) (f := (nF (fun _ => 0))) (v := (-1)) (h3 := by omega)) (va_cwS 2 hts gX5_init_J7_fill_53178 rfl rfl rfl (by decide +kernel) ⟨Nat.le_of_ble_eq_true rfl, Nat.le_of_ble_eq_true rfl⟩) (preS_rw (wc := [aI cI (q8) 1920 (nF (fun _ => 0))]) hK hP hD [1] rfl rfl) rfl rfl hl.1 rfl (lv_room (Nat.le_of_ble_eq_true rfl)) dX5_init_34 ⟨Nat.le_of_ble_eq_true rfl, Nat.le_of_ble_eq_true rfl⟩) hP hD hS [1] rfl [q8] (fun u => rfl) rfl (fun u_ H locs hw_34 hP hD hS => ?_)
  have hP : va_P G vwCl [(h0, .inr (5, [.ref q8, .ref q16, .ref q24, .int 0, .int 0])), aI cI (q8) 1920 (fil (nF (fun _ => 0)) (-1) 0 1920), aI cI (q16) 64 (nF (fun _ => 0)), aI cI (q24) 64 (nF (fun _ => 0))] H := hP
  have hD : va_D A [(h0, .inr (5, [.ref q8, .ref q16, .ref q24, .int 0, .int 0])), aI cI (q8) 1920 (fil (nF (fun _ => 0)) (-1) 0 1920), aI cI (q16) 64 (nF (fun _ => 0)), aI cI (q24) 64 (nF (fun _ => 0))] := hD
  refine lv_aload_n hx hb dX5_init_37 rfl (lv_at hl 0 rfl) ?_
  refine lv_iconst (v := nI 0) hx hb dX5_init_38 (by decide) ?_
  refine va_put (D := G) (own := RX5) (ref := "SpotRows$Tellings") (ci := 5) (v := .int (nI 0)) (ty := .int) (C := RX5) (T := TX5) (N := 5) hx hb hts hinX5 tyX5 tyX5_ok nmX5 hown hK.1 hP hD hS 0 rfl rfl 3 (by decide) fl27 (fun _ h9 => h9) rfl (by decide +kernel) rfl rfl (Nat.le_of_ble_eq_true rfl) dX5_init_39 (fun H locs hP hD hS => ?_)
  have hP : va_P G vwCl [(h0, .inr (5, [.ref q8, .ref q16, .ref q24, .int (nI 0), .int 0])), aI cI (q8) 1920 (fil (nF (fun _ => 0)) (-1) 0 1920), aI cI (q16) 64 (nF (fun _ => 0)), aI cI (q24) 64 (nF (fun _ => 0))] H := hP
  have hD : va_D A [(h0, .inr (5, [.ref q8, .ref q16, .ref q24, .int (nI 0), .int 0])), aI cI (q8) 1920 (fil (nF (fun _ => 0)) (-1) 0 1920), aI cI (q16) 64 (nF (fun _ => 0)), aI cI (q24) 64 (nF (fun _ => 0))] := hD
  refine lv_aload_n hx hb dX5_init_42 rfl (lv_at hl 0 rfl) ?_
  refine lv_bipush (v := nI 10) hx hb dX5_init_43 (by decide) ?_
  refine va_put (D := G) (own := RX5) (ref := "SpotRows$Tellings") (ci := 5) (v := .int (nI 10)) (ty := .int) (C := RX5) (T := TX5) (N := 5) hx hb hts hinX5 tyX5 tyX5_ok nmX5 hown hK.1 hP hD hS 0 rfl rfl 4 (by decide) fl31 (fun _ h9 => h9) rfl (by decide +kernel) rfl rfl (Nat.le_of_ble_eq_true rfl) dX5_init_45 (fun H locs hP hD hS => ?_)
  have hP : va_P G vwCl [(h0, .inr (5, [.ref q8, .ref q16, .ref q24, .int (nI 0), .int (nI 10)])), aI cI (q8) 1920 (fil (nF (fun _ => 0)) (-1) 0 1920), aI cI (q16) 64 (nF (fun _ => 0)), aI cI (q24) 64 (nF (fun _ => 0))] H := hP
  have hD : va_D A [(h0, .inr (5, [.ref q8, .ref q16, .ref q24, .int (nI 0), .int (nI 10)])), aI cI (q8) 1920 (fil (nF (fun _ => 0)) (-1) 0 1920), aI cI (q16) 64 (nF (fun _ => 0)), aI cI (q24) 64 (nF (fun _ => 0))] := hD
  obtain ⟨hP, hD⟩ := extI (g := (oF (fun _ => 0))) hP hD 1 rfl fil_o
  have hP : va_P G vwCl [(h0, .inr (5, [.ref q8, .ref q16, .ref q24, .int (nI 0), .int (nI 10)])), aI cI (q8) 1920 (oF (fun _ => 0)), aI cI (q16) 64 (nF (fun _ => 0)), aI cI (q24) 64 (nF (fun _ => 0))] H := hP
  have hD : va_D A [(h0, .inr (5, [.ref q8, .ref q16, .ref q24, .int (nI 0), .int (nI 10)])), aI cI (q8) 1920 (oF (fun _ => 0)), aI cI (q16) 64 (nF (fun _ => 0)), aI cI (q24) 64 (nF (fun _ => 0))] := hD
  have hP9 := hP.sub (ws' := [(h0, .inr (5, [.ref q8, .ref q16, .ref q24, .int (nI 0), .int (nI 10)])), aI cI (q8) 1920 (oF (fun _ => 0)), aI cI (q16) 64 (nF (fun _ => 0)), aI cI (q24) 64 (nF (fun _ => 0))]) [0, 1, 2, 3] rfl
  have hD9 := hD.sub (ws' := [(h0, .inr (5, [.ref q8, .ref q16, .ref q24, .int (nI 0), .int (nI 10)])), aI cI (q8) 1920 (oF (fun _ => 0)), aI cI (q16) 64 (nF (fun _ => 0)), aI cI (q24) 64 (nF (fun _ => 0))]) [0, 1, 2, 3] (by decide) rfl
  exact W.vret hx hb hr (fun zt ht zw => ⟨⟨(fun k => [q8, q16, q24].getD k 0), rfl, trivial, by show va_P _ _ _ zt.heap; rw [ht]; exact hP9, by rw [hAe]; exact hD9⟩, by rw [hAe]; exact hS.F ht⟩) hS.2.2 dX5_init_48

set_option maxHeartbeats 1000000 in
set_option maxRecDepth 100000 in
theorem c_X6_init (l : Launch) (G : va_G) (cI cJ : ClassId) (h0 sz : Nat) : Met l yX6_init wsX6_init ({ frames := 1, cells := 3, slots := 248, locals := 23 }) (inP G cI cJ h0 [(h0, .inr (6, [.null, .null, .null]))] sz) (inQ G [(h0, .inr (6, [.null, .null, .null]))] sz (fun _ => True) (fun u => [(h0, .inr (6, [.ref (u 0), .ref (u 1), .ref (u 2)])), aJ cJ (u 0) 240 (fun _ => lN 0), aI cI (u 1) 4 (oF (fun _ => 0)), aI cI (u 2) 4 (nF (fun _ => 0))])) 3 248 (va_A [(h0, .inr (6, [.null, .null, .null]))] sz) := by
  refine Met.ofW (cc := cX6_init) (maxL := 1) (ret := none) (by decide) rfl ?_
  intro pg ev s mt args below meth cd s₁ B hml hv
  obtain ⟨rfl, hsz, hP, hD0, hK⟩ := hv
  have hx := B.exec
  have hb := B.bytes
  have hr := B.returns
  have hts := atoms_spec (ws := wsX6_init) B.pre
  have hown : s.vm.findClass RX6 = some mt.cls := findClass_of_methodNamed B.named
  have hin : meth.name = "<init>" := (name_of_methodNamed B.named B.method).1
  subst hsz
  have hD := hD0.self (sz := s.heap.size)
  generalize hAe : va_A [(h0, .inr (6, [.null, .null, .null]))] s.heap.size = A at hD ⊢
  have hA : ∀ q : Nat, s.heap.size ≤ q → A q := fun q h => by rw [← hAe]; exact Or.inr h
  have hS : va_S A s.heap s.heap [] := va_S.rf
  have hP : va_P G vwCl [(h0, .inr (6, [.null, .null, .null]))] s.heap := hP
  have fl9 := hts (.fieldLink RX6 9 "SpotRows$Trays" "cells" "[J") (by decide +kernel)
  have hinX6 := (show ∀ w ∈ u_ws RX6 TX6 3, w ∈ wsX6_init by decide +kernel)
  have fl15 := hts (.fieldLink RX6 15 "SpotRows$Trays" "sorts" "[I") (by decide +kernel)
  have fl19 := hts (.fieldLink RX6 19 "SpotRows$Trays" "sizes" "[I") (by decide +kernel)
  have hl := lv_entry ([.ref h0]) (n := 1) (Nat.le_of_ble_eq_true rfl)
  rw [lg_entry_eq]
  generalize (lg_sl ([.ref h0]) ++ List.replicate (1 - (lg_sl ([.ref h0])).length) Slot.unset).toArray = ls at hl ⊢
  have hl : lv_has ls 1 [(0, .ref h0)] := hl
  refine lv_aload_n hx hb dX6_init_0 rfl (lv_at hl 0 rfl) ?_
  refine W.objInit hx hb hown (hts (.methodLink RX6 3 objectInit) (by decide +kernel)) (hts (.instanceMethod objectInit) (by decide +kernel)) (hts (.code objectInit ⟨#[0xb1]⟩ 1 none) (by decide +kernel)) rfl (by rw [hml]; exact hl.1) rfl dX6_init_1 (Nat.le_of_ble_eq_true rfl) (Nat.le_of_ble_eq_true rfl) ?_
  refine W.eq (g2 := F0 mt 4 ls []) rfl ?_
  refine lv_aload_n hx hb dX6_init_4 rfl (lv_at hl 0 rfl) ?_
  refine lv_sipush (v := nI 240) hx hb dX6_init_5 (by decide) ?_
  refine nw_J hx hb (hts (.arrayClass .long) (by decide +kernel)) hK hP hD hS hA (N := 240) (by decide) (Nat.le_of_ble_eq_true rfl) (Nat.le_of_ble_eq_true rfl) dX6_init_8 (fun q8 H hP hD hS => ?_)
  have hP : va_P G vwCl [(h0, .inr (6, [.null, .null, .null])), aJ cJ (q8) 240 (fun _ => lN 0)] H := hP
  have hD : va_D A [(h0, .inr (6, [.null, .null, .null])), aJ cJ (q8) 240 (fun _ => lN 0)] := hD
  refine W.widen (k := 1) (n := 240) (Nat.le_of_ble_eq_true rfl) (Nat.le_of_ble_eq_true rfl) ?_
  refine va_putF (D := G) (own := RX6) (ref := "SpotRows$Trays") (ci := 6) (v := .ref q8) (ty := .array .long) (C := RX6) (T := TX6) (N := 3) hx hb hts hinX6 tyX6 tyX6_ok nmX6 hown hK.1 hP hD hS 0 rfl rfl 0 (by decide) fl9 (fun _ h9 => h9) rfl hin rfl (by decide +kernel) rfl rfl (Nat.le_of_ble_eq_true rfl) dX6_init_10 (fun H locs hP hD hS => ?_)
  have hP : va_P G vwCl [(h0, .inr (6, [.ref q8, .null, .null])), aJ cJ (q8) 240 (fun _ => lN 0)] H := hP
  have hD : va_D A [(h0, .inr (6, [.ref q8, .null, .null])), aJ cJ (q8) 240 (fun _ => lN 0)] := hD
  refine lv_aload_n hx hb dX6_init_13 rfl (lv_at hl 0 rfl) ?_
  refine lv_iconst (v := nI 4) hx hb dX6_init_14 (by decide) ?_
  refine nw_I hx hb (hts (.arrayClass .int) (by decide +kernel)) hK hP hD hS hA (N := 4) (by decide) (Nat.le_of_ble_eq_true rfl) (Nat.le_of_ble_eq_true rfl) dX6_init_15 (fun q15 H hP hD hS => ?_)
  have hP : va_P G vwCl [(h0, .inr (6, [.ref q8, .null, .null])), aJ cJ (q8) 240 (fun _ => lN 0), aI cI (q15) 4 (nF (fun _ => 0))] H := hP
  have hD : va_D A [(h0, .inr (6, [.ref q8, .null, .null])), aJ cJ (q8) 240 (fun _ => lN 0), aI cI (q15) 4 (nF (fun _ => 0))] := hD
  refine W.widen (k := 2) (n := 244) (Nat.le_of_ble_eq_true rfl) (Nat.le_of_ble_eq_true rfl) ?_
  refine va_putF (D := G) (own := RX6) (ref := "SpotRows$Trays") (ci := 6) (v := .ref q15) (ty := .array .int) (C := RX6) (T := TX6) (N := 3) hx hb hts hinX6 tyX6 tyX6_ok nmX6 hown hK.1 hP hD hS 0 rfl rfl 1 (by decide) fl15 (fun _ h9 => h9) rfl hin rfl (by decide +kernel) rfl rfl (Nat.le_of_ble_eq_true rfl) dX6_init_17 (fun H locs hP hD hS => ?_)
  have hP : va_P G vwCl [(h0, .inr (6, [.ref q8, .ref q15, .null])), aJ cJ (q8) 240 (fun _ => lN 0), aI cI (q15) 4 (nF (fun _ => 0))] H := hP
  have hD : va_D A [(h0, .inr (6, [.ref q8, .ref q15, .null])), aJ cJ (q8) 240 (fun _ => lN 0), aI cI (q15) 4 (nF (fun _ => 0))] := hD
  refine lv_aload_n hx hb dX6_init_20 rfl (lv_at hl 0 rfl) ?_
  refine lv_iconst (v := nI 4) hx hb dX6_init_21 (by decide) ?_
  refine nw_I hx hb (hts (.arrayClass .int) (by decide +kernel)) hK hP hD hS hA (N := 4) (by decide) (Nat.le_of_ble_eq_true rfl) (Nat.le_of_ble_eq_true rfl) dX6_init_22 (fun q22 H hP hD hS => ?_)
  have hP : va_P G vwCl [(h0, .inr (6, [.ref q8, .ref q15, .null])), aJ cJ (q8) 240 (fun _ => lN 0), aI cI (q15) 4 (nF (fun _ => 0)), aI cI (q22) 4 (nF (fun _ => 0))] H := hP
  have hD : va_D A [(h0, .inr (6, [.ref q8, .ref q15, .null])), aJ cJ (q8) 240 (fun _ => lN 0), aI cI (q15) 4 (nF (fun _ => 0)), aI cI (q22) 4 (nF (fun _ => 0))] := hD
  refine W.widen (k := 3) (n := 248) (Nat.le_of_ble_eq_true rfl) (Nat.le_of_ble_eq_true rfl) ?_
  refine va_putF (D := G) (own := RX6) (ref := "SpotRows$Trays") (ci := 6) (v := .ref q22) (ty := .array .int) (C := RX6) (T := TX6) (N := 3) hx hb hts hinX6 tyX6 tyX6_ok nmX6 hown hK.1 hP hD hS 0 rfl rfl 2 (by decide) fl19 (fun _ h9 => h9) rfl hin rfl (by decide +kernel) rfl rfl (Nat.le_of_ble_eq_true rfl) dX6_init_24 (fun H locs hP hD hS => ?_)
  have hP : va_P G vwCl [(h0, .inr (6, [.ref q8, .ref q15, .ref q22])), aJ cJ (q8) 240 (fun _ => lN 0), aI cI (q15) 4 (nF (fun _ => 0)), aI cI (q22) 4 (nF (fun _ => 0))] H := hP
  have hD : va_D A [(h0, .inr (6, [.ref q8, .ref q15, .ref q22])), aJ cJ (q8) 240 (fun _ => lN 0), aI cI (q15) 4 (nF (fun _ => 0)), aI cI (q22) 4 (nF (fun _ => 0))] := hD
  refine lv_aload_n hx hb dX6_init_27 rfl (lv_at hl 0 rfl) ?_
  refine va_get (D := G) (own := RX6) (ref := "SpotRows$Trays") (ci := 6) (v := .ref q15) (C := RX6) (T := TX6) (N := 3) hx hb hts hinX6 hown hK.1 hP 0 rfl rfl 1 (by decide) fl15 (fun _ h9 => h9) rfl dX6_init_28 ?_
  refine lv_iconst (v := (-1)) hx hb dX6_init_31 (by decide) ?_
  refine crw_v (free := fun _ => True) (va_runS (As := [.ref q15, .int (-1)]) (rest := []) ⟨hx, hb, hml, hown, hts⟩ (c_J7_fill_53178 l G cI cJ (q := q15) (n := 4) (f := (nF (fun _ => 0))) (v := (-1)) (h3 := by omega)) (va_cwS 2 hts gX6_init_J7_fill_53178 rfl rfl rfl (by decide +kernel) ⟨Nat.le_of_ble_eq_true rfl, Nat.le_of_ble_eq_true rfl⟩) (preS_rw (wc := [aI cI (q15) 4 (nF (fun _ => 0))]) hK hP hD [2] rfl rfl) rfl rfl hl.1 rfl (lv_room (Nat.le_of_ble_eq_true rfl)) dX6_init_32 ⟨Nat.le_of_ble_eq_true rfl, Nat.le_of_ble_eq_true rfl⟩) hP hD hS [2] rfl [q15] (fun u => rfl) rfl (fun u_ H locs hw_32 hP hD hS => ?_)
  have hP : va_P G vwCl [(h0, .inr (6, [.ref q8, .ref q15, .ref q22])), aJ cJ (q8) 240 (fun _ => lN 0), aI cI (q15) 4 (fil (nF (fun _ => 0)) (-1) 0 4), aI cI (q22) 4 (nF (fun _ => 0))] H := hP
  have hD : va_D A [(h0, .inr (6, [.ref q8, .ref q15, .ref q22])), aJ cJ (q8) 240 (fun _ => lN 0), aI cI (q15) 4 (fil (nF (fun _ => 0)) (-1) 0 4), aI cI (q22) 4 (nF (fun _ => 0))] := hD
  obtain ⟨hP, hD⟩ := extI (g := (oF (fun _ => 0))) hP hD 2 rfl fil_o
  have hP : va_P G vwCl [(h0, .inr (6, [.ref q8, .ref q15, .ref q22])), aJ cJ (q8) 240 (fun _ => lN 0), aI cI (q15) 4 (oF (fun _ => 0)), aI cI (q22) 4 (nF (fun _ => 0))] H := hP
  have hD : va_D A [(h0, .inr (6, [.ref q8, .ref q15, .ref q22])), aJ cJ (q8) 240 (fun _ => lN 0), aI cI (q15) 4 (oF (fun _ => 0)), aI cI (q22) 4 (nF (fun _ => 0))] := hD
  have hP9 := hP.sub (ws' := [(h0, .inr (6, [.ref q8, .ref q15, .ref q22])), aJ cJ (q8) 240 (fun _ => lN 0), aI cI (q15) 4 (oF (fun _ => 0)), aI cI (q22) 4 (nF (fun _ => 0))]) [0, 1, 2, 3] rfl
  have hD9 := hD.sub (ws' := [(h0, .inr (6, [.ref q8, .ref q15, .ref q22])), aJ cJ (q8) 240 (fun _ => lN 0), aI cI (q15) 4 (oF (fun _ => 0)), aI cI (q22) 4 (nF (fun _ => 0))]) [0, 1, 2, 3] (by decide) rfl
  exact W.vret hx hb hr (fun zt ht zw => ⟨⟨(fun k => [q8, q15, q22].getD k 0), rfl, trivial, by show va_P _ _ _ zt.heap; rw [ht]; exact hP9, by rw [hAe]; exact hD9⟩, by rw [hAe]; exact hS.F ht⟩) hS.2.2 dX6_init_35
