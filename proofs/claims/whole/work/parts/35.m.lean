set_option maxHeartbeats 400000 in
set_option maxRecDepth 100000 in
theorem c_X8_pair (l : Launch) (G : va_G) (cI cJ : ClassId) (x : Nat) (y : Nat)  : Met l yX8_pair wsX8_pair ({ frames := 0, cells := 0, slots := 0, locals := 0 }) (roP G cI cJ [.int (nI x), .int (nI y)] []) (vp_Si (fun r => r = nI (x * 8 + y))) 0 0 (fun _ => False) := by
  refine Met.ofW (cc := cX8_pair) (maxL := 2) (ret := (some .int)) (by decide) rfl ?_
  intro pg ev s mt args below meth cd s₁ B hml hv
  obtain ⟨rfl, hP, hK⟩ := hv
  have hx := B.exec
  have hb := B.bytes
  have hr := B.returns
  have hts := atoms_spec (ws := wsX8_pair) B.pre
  have hown : s.vm.findClass RX8 = some mt.cls := findClass_of_methodNamed B.named
  have hlocks := B.notSynchronized
  have hP : va_P G vwCl [] s.heap := hP
  have hl := lv_entry ([.int (nI x), .int (nI y)]) (n := 2) (Nat.le_of_ble_eq_true rfl)
  rw [lg_entry_eq]
  generalize (lg_sl ([.int (nI x), .int (nI y)]) ++ List.replicate (2 - (lg_sl ([.int (nI x), .int (nI y)])).length) Slot.unset).toArray = ls at hl ⊢
  have hl : lv_has ls 2 [(0, .int (nI x)), (1, .int (nI y))] := hl
  refine lv_bipush (v := nI 8) hx hb dX8_pair_0 (by decide) ?_
  refine lv_iload_n hx hb dX8_pair_2 rfl (lv_at hl 0 rfl) ?_
  refine lv_imul hx hb dX8_pair_3 ?_
  refine toi (pk_mul 8 x) ?_
  refine lv_iload_n hx hb dX8_pair_4 rfl (lv_at hl 1 rfl) ?_
  refine lv_iadd hx hb dX8_pair_5 ?_
  refine toi (nI_add (8 * x) y) ?_
  exact W.iret (v := nI (8 * x + y)) hx hb hr (fun zt ht zw => ⟨_, rfl, (congrArg nI (show (8 * x + y) = (x * 8 + y) from by omega)), ht⟩) (fun q hq => absurd hq List.not_mem_nil) dX8_pair_6

set_option maxHeartbeats 400000 in
set_option maxRecDepth 100000 in
theorem c_X8_look (l : Launch) (G : va_G) (cI cJ : ClassId) (b : Nat → Nat) (st : Int32) (tp : Int64) (bt : Int64) (ey : Nat) (le : Nat) (en : Int32) (wo : Nat) (t : Nat → Nat) (u : Nat → Nat) (gr : Nat → Int32) (sp : Nat → Int32) (fa : Nat → Nat) (sg : Nat → Nat) (nx : Nat → Nat) (ti : Nat → Nat) (fx : Nat → Nat) (tb : TB t) (hey : ey ≤ 8) (hG : GM t ey gr sp) (hu : UW t u wo) (hwo : wo ≤ 8) (tbu : TB u) (hle : 1 ≤ le ∧ le ≤ 100) : Met l yX8_look wsX8_look ({ frames := 4, cells := 0, slots := 0, locals := 95 }) (rwP G cI cJ [.ref (b 0)] [oM b st tp bt (nI ey) (nI le) en (oI wo), aI cI (b 4) 1920 gr, aI cI (b 5) 1920 sp, aI cI (b 8) 8 (oF fa), aI cI (b 9) 8 (nF sg), aI cI (b 10) 8 (oF nx), aI cI (b 11) 64 (nF ti), aI cI (b 12) 64 (oF fx)]) (rwQv G [oM b st tp bt (nI ey) (nI le) en (oI wo), aI cI (b 4) 1920 gr, aI cI (b 5) 1920 sp, aI cI (b 8) 8 (oF fa), aI cI (b 9) 8 (nF sg), aI cI (b 10) 8 (oF nx), aI cI (b 11) 64 (nF ti), aI cI (b 12) 64 (oF fx)] (fun (zu : (Nat → Nat) × (Nat → Nat) × (Nat → Nat) × (Nat → Nat) × (Nat → Nat)) => match zu with | (fa2, sg2, nx2, ti2, fx2) => LF u le ey fa2 sg2 ∧ FT u le ey fx2 ti2 ey 0) (fun (zu : (Nat → Nat) × (Nat → Nat) × (Nat → Nat) × (Nat → Nat) × (Nat → Nat)) => match zu with | (fa2, sg2, nx2, ti2, fx2) => [oM b st tp bt (nI ey) (nI le) en (oI wo), aI cI (b 4) 1920 gr, aI cI (b 5) 1920 sp, aI cI (b 8) 8 (oF fa2), aI cI (b 9) 8 (nF sg2), aI cI (b 10) 8 (oF nx2), aI cI (b 11) 64 (nF ti2), aI cI (b 12) 64 (oF fx2)])) 0 0 (ads [oM b st tp bt (nI ey) (nI le) en (oI wo), aI cI (b 4) 1920 gr, aI cI (b 5) 1920 sp, aI cI (b 8) 8 (oF fa), aI cI (b 9) 8 (nF sg), aI cI (b 10) 8 (oF nx), aI cI (b 11) 64 (nF ti), aI cI (b 12) 64 (oF fx)]) := by
  refine Met.ofW (cc := cX8_look) (maxL := 5) (ret := none) (by decide) rfl ?_
  intro pg ev s mt args below meth cd s₁ B hml hv
  obtain ⟨rfl, hP, hD0, hK⟩ := hv
  have hx := B.exec
  have hb := B.bytes
  have hr := B.returns
  have hts := atoms_spec (ws := wsX8_look) B.pre
  have hown : s.vm.findClass RX8 = some mt.cls := findClass_of_methodNamed B.named
  have hlocks := B.notSynchronized
  have hD := ads_self hD0
  generalize hAe : ads [oM b st tp bt (nI ey) (nI le) en (oI wo), aI cI (b 4) 1920 gr, aI cI (b 5) 1920 sp, aI cI (b 8) 8 (oF fa), aI cI (b 9) 8 (nF sg), aI cI (b 10) 8 (oF nx), aI cI (b 11) 64 (nF ti), aI cI (b 12) 64 (oF fx)] = A at hD ⊢
  have hS : va_S A s.heap s.heap [] := va_S.rf
  have hP : va_P G vwCl [oM b st tp bt (nI ey) (nI le) en (oI wo), aI cI (b 4) 1920 gr, aI cI (b 5) 1920 sp, aI cI (b 8) 8 (oF fa), aI cI (b 9) 8 (nF sg), aI cI (b 10) 8 (oF nx), aI cI (b 11) 64 (nF ti), aI cI (b 12) 64 (oF fx)] s.heap := hP
  have hinX8 := (show ∀ w ∈ u_ws RX8 TX8 23, w ∈ wsX8_look by decide +kernel)
  have fl96 := hts (.fieldLink RX8 96 "SpotRowsModel" "eyes" "I") (by decide +kernel)
  have fl46 := hts (.fieldLink RX8 46 "SpotRowsModel" "far" "[I") (by decide +kernel)
  have fl52 := hts (.fieldLink RX8 52 "SpotRowsModel" "next" "[I") (by decide +kernel)
  have fl58 := hts (.fieldLink RX8 58 "SpotRowsModel" "factors" "[I") (by decide +kernel)
  have fl49 := hts (.fieldLink RX8 49 "SpotRowsModel" "strong" "[I") (by decide +kernel)
  have fl55 := hts (.fieldLink RX8 55 "SpotRowsModel" "ties" "[I") (by decide +kernel)
  have hl := lv_entry ([.ref (b 0)]) (n := 5) (Nat.le_of_ble_eq_true rfl)
  rw [lg_entry_eq]
  generalize (lg_sl ([.ref (b 0)]) ++ List.replicate (5 - (lg_sl ([.ref (b 0)])).length) Slot.unset).toArray = ls at hl ⊢
  have hl : lv_has ls 5 [(0, .ref (b 0))] := hl
  refine lv_iconst (v := nI 0) hx hb dX8_look_0 (by decide) ?_
  refine lv_istore_n (lv' := [(1, .int (nI 0)), (0, .ref (b 0))]) hx hb dX8_look_1 rfl hl (by decide) rfl (fun ls hl => ?_)
  have lp_2 : ∀ (nf : Nat) (a : Nat) (fa1 : Nat → Nat) (sg1 : Nat → Nat) (nx1 : Nat → Nat) (ti1 : Nat → Nat) (fx1 : Nat → Nat), (a ≤ ey) → (FT u le ey fx1 ti1 a 0) → (∀ x, x < a → fa1 x = (if x = 0 then 1 else 0) ∧ sg1 x = 241 ∧ nx1 x = 0) → ey - a < nf → ∀ (H : Heap) (locs : List Loc), va_P G vwCl [oM b st tp bt (nI ey) (nI le) en (oI wo), aI cI (b 4) 1920 gr, aI cI (b 5) 1920 sp, aI cI (b 8) 8 (oF fa1), aI cI (b 9) 8 (nF sg1), aI cI (b 10) 8 (oF nx1), aI cI (b 11) 64 (nF ti1), aI cI (b 12) 64 (oF fx1)] H → va_D A [oM b st tp bt (nI ey) (nI le) en (oI wo), aI cI (b 4) 1920 gr, aI cI (b 5) 1920 sp, aI cI (b 8) 8 (oF fa1), aI cI (b 9) 8 (nF sg1), aI cI (b 10) 8 (oF nx1), aI cI (b 11) 64 (nF ti1), aI cI (b 12) 64 (oF fx1)] → va_S A s.heap H locs → ∀ (ls : Array Slot), lv_has ls 5 [(0, .ref (b 0)), (1, .int (nI a))] → W pg l ev (headSpec wsX8_look ({ frames := 4, cells := 0, slots := 0, locals := 95 })).room s mt ([.ref (b 0)] : List Value).toArray below meth cd H locs 0 0 (MQ below (rwQv G [oM b st tp bt (nI ey) (nI le) en (oI wo), aI cI (b 4) 1920 gr, aI cI (b 5) 1920 sp, aI cI (b 8) 8 (oF fa), aI cI (b 9) 8 (nF sg), aI cI (b 10) 8 (oF nx), aI cI (b 11) 64 (nF ti), aI cI (b 12) 64 (oF fx)] (fun (zu : (Nat → Nat) × (Nat → Nat) × (Nat → Nat) × (Nat → Nat) × (Nat → Nat)) => match zu with | (fa2, sg2, nx2, ti2, fx2) => LF u le ey fa2 sg2 ∧ FT u le ey fx2 ti2 ey 0) (fun (zu : (Nat → Nat) × (Nat → Nat) × (Nat → Nat) × (Nat → Nat) × (Nat → Nat)) => match zu with | (fa2, sg2, nx2, ti2, fx2) => [oM b st tp bt (nI ey) (nI le) en (oI wo), aI cI (b 4) 1920 gr, aI cI (b 5) 1920 sp, aI cI (b 8) 8 (oF fa2), aI cI (b 9) 8 (nF sg2), aI cI (b 10) 8 (oF nx2), aI cI (b 11) 64 (nF ti2), aI cI (b 12) 64 (oF fx2)])) ([.ref (b 0)] : List Value).toArray s 0 0 A) (F0 mt 2 ls []) := by
    intro nf
    induction nf with
    | zero => intro a fa1 sg1 nx1 ti1 fx1 ha hF hI hfu; exact absurd hfu (Nat.not_lt_zero _)
    | succ nf ih_2 =>
      intro a fa1 sg1 nx1 ti1 fx1 ha hF hI hfu H locs hP hD hS ls hl
      refine lv_iload_n hx hb dX8_look_2 rfl (lv_at hl 1 rfl) ?_
      refine lv_aload_n hx hb dX8_look_3 rfl (lv_at hl 0 rfl) ?_
      refine va_get (D := G) (own := RX8) (ref := "SpotRowsModel") (ci := 8) (v := .int (nI ey)) (C := RX8) (T := TX8) (N := 23) hx hb hts hinX8 hown hK.1 hP 0 rfl rfl 6 (by decide) fl96 (fun _ h9 => h9) rfl dX8_look_4 ?_
      refine nv_icmp_ge (tgt := 113) hx hb dX8_look_7 (by decide) (by first | omega | exact Nat.le_trans (fc_le _ _ _ _) (by decide)) (by first | omega | exact Nat.le_trans (fc_le _ _ _ _) (by decide)) (fun c_7 => ?_) (fun c_7 => ?_)
      · refine lv_iconst (v := nI 1) hx hb dX8_look_113 (by decide) ?_
        refine lv_istore_n (lv' := [(1, .int (nI 1)), (0, .ref (b 0))]) hx hb dX8_look_114 rfl hl (by decide) rfl (fun ls hl => ?_)
        have lp_115 : ∀ (nf : Nat) (k : Nat) (fa1 : Nat → Nat) (sg1 : Nat → Nat) (nx1 : Nat → Nat), (k ≤ 7 ∧ (k + 1 ≤ ey ∨ k = 0)) → (LKm u le ey k 1 1 fa1 sg1 nx1) → (∀ x, x < ey → nx1 x ≤ 8) → 8 - k < nf → ∀ (H : Heap) (locs : List Loc), va_P G vwCl [oM b st tp bt (nI ey) (nI le) en (oI wo), aI cI (b 4) 1920 gr, aI cI (b 5) 1920 sp, aI cI (b 8) 8 (oF fa1), aI cI (b 9) 8 (nF sg1), aI cI (b 10) 8 (oF nx1), aI cI (b 11) 64 (nF ti1), aI cI (b 12) 64 (oF fx1)] H → va_D A [oM b st tp bt (nI ey) (nI le) en (oI wo), aI cI (b 4) 1920 gr, aI cI (b 5) 1920 sp, aI cI (b 8) 8 (oF fa1), aI cI (b 9) 8 (nF sg1), aI cI (b 10) 8 (oF nx1), aI cI (b 11) 64 (nF ti1), aI cI (b 12) 64 (oF fx1)] → va_S A s.heap H locs → ∀ (ls : Array Slot), lv_has ls 5 [(0, .ref (b 0)), (1, .int (nI (k + 1)))] → W pg l ev (headSpec wsX8_look ({ frames := 4, cells := 0, slots := 0, locals := 95 })).room s mt ([.ref (b 0)] : List Value).toArray below meth cd H locs 0 0 (MQ below (rwQv G [oM b st tp bt (nI ey) (nI le) en (oI wo), aI cI (b 4) 1920 gr, aI cI (b 5) 1920 sp, aI cI (b 8) 8 (oF fa), aI cI (b 9) 8 (nF sg), aI cI (b 10) 8 (oF nx), aI cI (b 11) 64 (nF ti), aI cI (b 12) 64 (oF fx)] (fun (zu : (Nat → Nat) × (Nat → Nat) × (Nat → Nat) × (Nat → Nat) × (Nat → Nat)) => match zu with | (fa2, sg2, nx2, ti2, fx2) => LF u le ey fa2 sg2 ∧ FT u le ey fx2 ti2 ey 0) (fun (zu : (Nat → Nat) × (Nat → Nat) × (Nat → Nat) × (Nat → Nat) × (Nat → Nat)) => match zu with | (fa2, sg2, nx2, ti2, fx2) => [oM b st tp bt (nI ey) (nI le) en (oI wo), aI cI (b 4) 1920 gr, aI cI (b 5) 1920 sp, aI cI (b 8) 8 (oF fa2), aI cI (b 9) 8 (nF sg2), aI cI (b 10) 8 (oF nx2), aI cI (b 11) 64 (nF ti2), aI cI (b 12) 64 (oF fx2)])) ([.ref (b 0)] : List Value).toArray s 0 0 A) (F0 mt 115 ls []) := by
          intro nf
          induction nf with
          | zero => intro k fa1 sg1 nx1 hk hL hN hfu; exact absurd hfu (Nat.not_lt_zero _)
          | succ nf ih_115 =>
            intro k fa1 sg1 nx1 hk hL hN hfu H locs hP hD hS ls hl
            refine lv_iload_n hx hb dX8_look_115 rfl (lv_at hl 1 rfl) ?_
            refine lv_aload_n hx hb dX8_look_116 rfl (lv_at hl 0 rfl) ?_
            refine va_get (D := G) (own := RX8) (ref := "SpotRowsModel") (ci := 8) (v := .int (nI ey)) (C := RX8) (T := TX8) (N := 23) hx hb hts hinX8 hown hK.1 hP 0 rfl rfl 6 (by decide) fl96 (fun _ h9 => h9) rfl dX8_look_117 ?_
            refine nv_icmp_ge (tgt := 306) hx hb dX8_look_120 (by decide) (by first | omega | exact Nat.le_trans (fc_le _ _ _ _) (by decide)) (by first | omega | exact Nat.le_trans (fc_le _ _ _ _) (by decide)) (fun c_120 => ?_) (fun c_120 => ?_)
            · exact W.vret hx hb hr (fun zt ht zw => ⟨⟨(fa1, sg1, nx1, ti1, fx1), rfl, (by exact ⟨LF_of hL hey (by omega) (by omega), fun x y h1 h2 _ => hF x y h1 h2 (by omega)⟩), by show va_P _ _ _ zt.heap; rw [ht]; exact hP⟩, by rw [hAe]; exact hS.F ht⟩) hS.2.2 dX8_look_306
            refine lv_iconst (v := nI 1) hx hb dX8_look_123 (by decide) ?_
            refine lv_istore_n (lv' := [(2, .int (nI 1)), (0, .ref (b 0)), (1, .int (nI (k + 1)))]) hx hb dX8_look_124 rfl hl (by decide) rfl (fun ls hl => ?_)
            have lp_125 : ∀ (nf : Nat) (a_ : Nat) (sg3 : Nat → Nat) (nx3 : Nat → Nat), (1 ≤ a_ ∧ a_ ≤ ey) → (LKm u le ey k 1 a_ fa1 sg3 nx3) → (∀ x, x < ey → nx3 x ≤ 8) → ey - a_ < nf → ∀ (H : Heap) (locs : List Loc), va_P G vwCl [oM b st tp bt (nI ey) (nI le) en (oI wo), aI cI (b 4) 1920 gr, aI cI (b 5) 1920 sp, aI cI (b 8) 8 (oF fa1), aI cI (b 9) 8 (nF sg3), aI cI (b 10) 8 (oF nx3), aI cI (b 11) 64 (nF ti1), aI cI (b 12) 64 (oF fx1)] H → va_D A [oM b st tp bt (nI ey) (nI le) en (oI wo), aI cI (b 4) 1920 gr, aI cI (b 5) 1920 sp, aI cI (b 8) 8 (oF fa1), aI cI (b 9) 8 (nF sg3), aI cI (b 10) 8 (oF nx3), aI cI (b 11) 64 (nF ti1), aI cI (b 12) 64 (oF fx1)] → va_S A s.heap H locs → ∀ (ls : Array Slot), lv_has ls 5 [(0, .ref (b 0)), (1, .int (nI (k + 1))), (2, .int (nI a_))] → W pg l ev (headSpec wsX8_look ({ frames := 4, cells := 0, slots := 0, locals := 95 })).room s mt ([.ref (b 0)] : List Value).toArray below meth cd H locs 0 0 (MQ below (rwQv G [oM b st tp bt (nI ey) (nI le) en (oI wo), aI cI (b 4) 1920 gr, aI cI (b 5) 1920 sp, aI cI (b 8) 8 (oF fa), aI cI (b 9) 8 (nF sg), aI cI (b 10) 8 (oF nx), aI cI (b 11) 64 (nF ti), aI cI (b 12) 64 (oF fx)] (fun (zu : (Nat → Nat) × (Nat → Nat) × (Nat → Nat) × (Nat → Nat) × (Nat → Nat)) => match zu with | (fa2, sg2, nx2, ti2, fx2) => LF u le ey fa2 sg2 ∧ FT u le ey fx2 ti2 ey 0) (fun (zu : (Nat → Nat) × (Nat → Nat) × (Nat → Nat) × (Nat → Nat) × (Nat → Nat)) => match zu with | (fa2, sg2, nx2, ti2, fx2) => [oM b st tp bt (nI ey) (nI le) en (oI wo), aI cI (b 4) 1920 gr, aI cI (b 5) 1920 sp, aI cI (b 8) 8 (oF fa2), aI cI (b 9) 8 (nF sg2), aI cI (b 10) 8 (oF nx2), aI cI (b 11) 64 (nF ti2), aI cI (b 12) 64 (oF fx2)])) ([.ref (b 0)] : List Value).toArray s 0 0 A) (F0 mt 125 ls []) := by
              intro nf
              induction nf with
              | zero => intro a_ sg3 nx3 ha_ hL2 hN2 hfu; exact absurd hfu (Nat.not_lt_zero _)
              | succ nf ih_125 =>
                intro a_ sg3 nx3 ha_ hL2 hN2 hfu H locs hP hD hS ls hl
                refine lv_iload_n hx hb dX8_look_125 rfl (lv_at hl 2 rfl) ?_
                refine lv_aload_n hx hb dX8_look_126 rfl (lv_at hl 0 rfl) ?_
                refine va_get (D := G) (own := RX8) (ref := "SpotRowsModel") (ci := 8) (v := .int (nI ey)) (C := RX8) (T := TX8) (N := 23) hx hb hts hinX8 hown hK.1 hP 0 rfl rfl 6 (by decide) fl96 (fun _ h9 => h9) rfl dX8_look_127 ?_
                refine nv_icmp_ge (tgt := 257) hx hb dX8_look_130 (by decide) (by first | omega | exact Nat.le_trans (fc_le _ _ _ _) (by decide)) (by first | omega | exact Nat.le_trans (fc_le _ _ _ _) (by decide)) (fun c_130 => ?_) (fun c_130 => ?_)
                · refine lv_iconst (v := nI 1) hx hb dX8_look_257 (by decide) ?_
                  refine lv_istore_n (lv' := [(2, .int (nI 1)), (0, .ref (b 0)), (1, .int (nI (k + 1)))]) hx hb dX8_look_258 rfl hl (by decide) rfl (fun ls hl => ?_)
                  have lp_259 : ∀ (nf : Nat) (i : Nat) (fa4 : Nat → Nat), (1 ≤ i ∧ i ≤ ey) → (LKm u le ey k i ey fa4 sg3 nx3) → ey - i < nf → ∀ (H : Heap) (locs : List Loc), va_P G vwCl [oM b st tp bt (nI ey) (nI le) en (oI wo), aI cI (b 4) 1920 gr, aI cI (b 5) 1920 sp, aI cI (b 8) 8 (oF fa4), aI cI (b 9) 8 (nF sg3), aI cI (b 10) 8 (oF nx3), aI cI (b 11) 64 (nF ti1), aI cI (b 12) 64 (oF fx1)] H → va_D A [oM b st tp bt (nI ey) (nI le) en (oI wo), aI cI (b 4) 1920 gr, aI cI (b 5) 1920 sp, aI cI (b 8) 8 (oF fa4), aI cI (b 9) 8 (nF sg3), aI cI (b 10) 8 (oF nx3), aI cI (b 11) 64 (nF ti1), aI cI (b 12) 64 (oF fx1)] → va_S A s.heap H locs → ∀ (ls : Array Slot), lv_has ls 5 [(0, .ref (b 0)), (1, .int (nI (k + 1))), (2, .int (nI i))] → W pg l ev (headSpec wsX8_look ({ frames := 4, cells := 0, slots := 0, locals := 95 })).room s mt ([.ref (b 0)] : List Value).toArray below meth cd H locs 0 0 (MQ below (rwQv G [oM b st tp bt (nI ey) (nI le) en (oI wo), aI cI (b 4) 1920 gr, aI cI (b 5) 1920 sp, aI cI (b 8) 8 (oF fa), aI cI (b 9) 8 (nF sg), aI cI (b 10) 8 (oF nx), aI cI (b 11) 64 (nF ti), aI cI (b 12) 64 (oF fx)] (fun (zu : (Nat → Nat) × (Nat → Nat) × (Nat → Nat) × (Nat → Nat) × (Nat → Nat)) => match zu with | (fa2, sg2, nx2, ti2, fx2) => LF u le ey fa2 sg2 ∧ FT u le ey fx2 ti2 ey 0) (fun (zu : (Nat → Nat) × (Nat → Nat) × (Nat → Nat) × (Nat → Nat) × (Nat → Nat)) => match zu with | (fa2, sg2, nx2, ti2, fx2) => [oM b st tp bt (nI ey) (nI le) en (oI wo), aI cI (b 4) 1920 gr, aI cI (b 5) 1920 sp, aI cI (b 8) 8 (oF fa2), aI cI (b 9) 8 (nF sg2), aI cI (b 10) 8 (oF nx2), aI cI (b 11) 64 (nF ti2), aI cI (b 12) 64 (oF fx2)])) ([.ref (b 0)] : List Value).toArray s 0 0 A) (F0 mt 259 ls []) := by
                    intro nf
                    induction nf with
                    | zero => intro i fa4 hi hL3 hfu; exact absurd hfu (Nat.not_lt_zero _)
                    | succ nf ih_259 =>
                      intro i fa4 hi hL3 hfu H locs hP hD hS ls hl
                      refine lv_iload_n hx hb dX8_look_259 rfl (lv_at hl 2 rfl) ?_
                      refine lv_aload_n hx hb dX8_look_260 rfl (lv_at hl 0 rfl) ?_
                      refine va_get (D := G) (own := RX8) (ref := "SpotRowsModel") (ci := 8) (v := .int (nI ey)) (C := RX8) (T := TX8) (N := 23) hx hb hts hinX8 hown hK.1 hP 0 rfl rfl 6 (by decide) fl96 (fun _ h9 => h9) rfl dX8_look_261 ?_
                      refine nv_icmp_ge (tgt := 300) hx hb dX8_look_264 (by decide) (by first | omega | exact Nat.le_trans (fc_le _ _ _ _) (by decide)) (by first | omega | exact Nat.le_trans (fc_le _ _ _ _) (by decide)) (fun c_264 => ?_) (fun c_264 => ?_)
                      · refine lv_iinc (v := nI (k + 1 + 1)) (lv' := [(1, .int (nI (k + 1 + 1))), (0, .ref (b 0)), (2, .int (nI i))]) hx hb dX8_look_300 hl (k := 1) rfl (nI_add (k + 1) 1) (by decide) rfl (fun ls hl => ?_)
                        refine lv_goto (tgt := 115) hx hb dX8_look_303 (by decide) ?_
                        exact ih_115 (k + 1) fa4 sg3 nx3 (by omega) (by exact LKf_end hL3 c_264) (by exact hN2) (by omega) H locs hP hD hS ls (lvcv (l := [(0, .ref (b 0)), (1, .int (nI (k + 1 + 1)))]) (lv_sub hl [1, 0] rfl) (lvC (lvI (congrArg nI (show (k + 1 + 1) = ((k + 1) + 1) from by rfl)) rfl)))
                      have f1 := fa_b hL3 hey (by omega) (a := i) (by omega)
                      have f8 := hN2 i (by omega)
                      refine lv_aload_n hx hb dX8_look_267 rfl (lv_at hl 0 rfl) ?_
                      refine va_get (D := G) (own := RX8) (ref := "SpotRowsModel") (ci := 8) (v := .ref (b 8)) (C := RX8) (T := TX8) (N := 23) hx hb hts hinX8 hown hK.1 hP 0 rfl rfl 14 (by decide) fl46 (fun _ h9 => h9) rfl dX8_look_268 ?_
                      refine lv_iload_n hx hb dX8_look_271 rfl (lv_at hl 2 rfl) ?_
                      refine ld_oF hx hb hK hP 3 (k := i) rfl (by first | omega | exact Nat.le_trans (fc_le _ _ _ _) (by decide)) (by decide) dX8_look_272 ?_
                      refine lv_iconst (v := (-1)) hx hb dX8_look_273 (by decide) ?_
                      refine no_icmp_ne (tgt := 294) hx hb dX8_look_274 (by decide) (by first | omega | exact Nat.le_trans (fc_le _ _ _ _) (by decide)) (fun c_274 => ?_) (fun c_274 => ?_)
                      · refine lv_iinc (v := nI (i + 1)) (lv' := [(2, .int (nI (i + 1))), (0, .ref (b 0)), (1, .int (nI (k + 1)))]) hx hb dX8_look_294 hl (k := 2) rfl (nI_add i 1) (by decide) rfl (fun ls hl => ?_)
                        refine lv_goto (tgt := 259) hx hb dX8_look_297 (by decide) ?_
                        exact ih_259 (i + 1) fa4 (by omega) (by first | exact LKf_put hL3 (by omega) c_274 c_284 | exact LKf_skip hL3 (by omega) (Or.inl c_274) | exact LKf_skip hL3 (by omega) (Or.inr c_284)) (by omega) H locs hP hD hS ls (lvcv (l := [(0, .ref (b 0)), (1, .int (nI (k + 1))), (2, .int (nI (i + 1)))]) (lv_sub hl [1, 2, 0] rfl) (lvC (lvC (lvC rfl))))
                      refine lv_aload_n hx hb dX8_look_277 rfl (lv_at hl 0 rfl) ?_
                      refine va_get (D := G) (own := RX8) (ref := "SpotRowsModel") (ci := 8) (v := .ref (b 10)) (C := RX8) (T := TX8) (N := 23) hx hb hts hinX8 hown hK.1 hP 0 rfl rfl 16 (by decide) fl52 (fun _ h9 => h9) rfl dX8_look_278 ?_
                      refine lv_iload_n hx hb dX8_look_281 rfl (lv_at hl 2 rfl) ?_
                      refine ld_oF hx hb hK hP 5 (k := i) rfl (by first | omega | exact Nat.le_trans (fc_le _ _ _ _) (by decide)) (by decide) dX8_look_282 ?_
                      refine lv_iconst (v := (-1)) hx hb dX8_look_283 (by decide) ?_
                      refine no_icmp_eq (tgt := 294) hx hb dX8_look_284 (by decide) (by first | omega | exact Nat.le_trans (fc_le _ _ _ _) (by decide)) (fun c_284 => ?_) (fun c_284 => ?_)
                      · refine lv_iinc (v := nI (i + 1)) (lv' := [(2, .int (nI (i + 1))), (0, .ref (b 0)), (1, .int (nI (k + 1)))]) hx hb dX8_look_294 hl (k := 2) rfl (nI_add i 1) (by decide) rfl (fun ls hl => ?_)
                        refine lv_goto (tgt := 259) hx hb dX8_look_297 (by decide) ?_
                        exact ih_259 (i + 1) fa4 (by omega) (by first | exact LKf_put hL3 (by omega) c_274 c_284 | exact LKf_skip hL3 (by omega) (Or.inl c_274) | exact LKf_skip hL3 (by omega) (Or.inr c_284)) (by omega) H locs hP hD hS ls (lvcv (l := [(0, .ref (b 0)), (1, .int (nI (k + 1))), (2, .int (nI (i + 1)))]) (lv_sub hl [1, 2, 0] rfl) (lvC (lvC (lvC rfl))))
                      refine lv_aload_n hx hb dX8_look_287 rfl (lv_at hl 0 rfl) ?_
                      refine va_get (D := G) (own := RX8) (ref := "SpotRowsModel") (ci := 8) (v := .ref (b 8)) (C := RX8) (T := TX8) (N := 23) hx hb hts hinX8 hown hK.1 hP 0 rfl rfl 14 (by decide) fl46 (fun _ h9 => h9) rfl dX8_look_288 ?_
                      refine lv_iload_n hx hb dX8_look_291 rfl (lv_at hl 2 rfl) ?_
                      refine lv_iload_n hx hb dX8_look_292 rfl (lv_at hl 1 rfl) ?_
                      refine toi (nI_o (k + 1)) ?_
                      refine st_oF hx hb hK hP hD hS 3 (k := i) rfl (by first | omega | exact Nat.le_trans (fc_le _ _ _ _) (by decide)) (by decide) dX8_look_293 (fun H locs hP hD hS => ?_)
                      have hP : va_P G vwCl [oM b st tp bt (nI ey) (nI le) en (oI wo), aI cI (b 4) 1920 gr, aI cI (b 5) 1920 sp, aI cI (b 8) 8 (oF (upN fa4 i (k + 1 + 1))), aI cI (b 9) 8 (nF sg3), aI cI (b 10) 8 (oF nx3), aI cI (b 11) 64 (nF ti1), aI cI (b 12) 64 (oF fx1)] H := hP
                      have hD : va_D A [oM b st tp bt (nI ey) (nI le) en (oI wo), aI cI (b 4) 1920 gr, aI cI (b 5) 1920 sp, aI cI (b 8) 8 (oF (upN fa4 i (k + 1 + 1))), aI cI (b 9) 8 (nF sg3), aI cI (b 10) 8 (oF nx3), aI cI (b 11) 64 (nF ti1), aI cI (b 12) 64 (oF fx1)] := hD
                      refine lv_iinc (v := nI (i + 1)) (lv' := [(2, .int (nI (i + 1))), (0, .ref (b 0)), (1, .int (nI (k + 1)))]) hx hb dX8_look_294 hl (k := 2) rfl (nI_add i 1) (by decide) rfl (fun ls hl => ?_)
                      refine lv_goto (tgt := 259) hx hb dX8_look_297 (by decide) ?_
                      exact ih_259 (i + 1) (upN fa4 i (k + 1 + 1)) (by omega) (by first | exact LKf_put hL3 (by omega) c_274 c_284 | exact LKf_skip hL3 (by omega) (Or.inl c_274) | exact LKf_skip hL3 (by omega) (Or.inr c_284)) (by omega) H locs hP hD hS ls (lvcv (l := [(0, .ref (b 0)), (1, .int (nI (k + 1))), (2, .int (nI (i + 1)))]) (lv_sub hl [1, 2, 0] rfl) (lvC (lvC (lvC rfl))))
                  exact lp_259 (ey - 1 + 1) 1 fa1 (by omega) (by exact LKm_sweep hL2 c_130) (by omega) _ _ hP hD hS ls (lvcv (l := [(0, .ref (b 0)), (1, .int (nI (k + 1))), (2, .int (nI 1))]) (lv_sub hl [1, 2, 0] rfl) (lvC (lvC (lvC rfl))))
                have f1 := fa_b hL2 hey (by omega) (a := a_) (by omega)
                refine lv_aload_n hx hb dX8_look_133 rfl (lv_at hl 0 rfl) ?_
                refine va_get (D := G) (own := RX8) (ref := "SpotRowsModel") (ci := 8) (v := .ref (b 8)) (C := RX8) (T := TX8) (N := 23) hx hb hts hinX8 hown hK.1 hP 0 rfl rfl 14 (by decide) fl46 (fun _ h9 => h9) rfl dX8_look_134 ?_
                refine lv_iload_n hx hb dX8_look_137 rfl (lv_at hl 2 rfl) ?_
                refine ld_oF hx hb hK hP 3 (k := a_) rfl (by first | omega | exact Nat.le_trans (fc_le _ _ _ _) (by decide)) (by decide) dX8_look_138 ?_
                refine lv_iconst (v := (-1)) hx hb dX8_look_139 (by decide) ?_
                refine no_icmp_eq (tgt := 146) hx hb dX8_look_140 (by decide) (by first | omega | exact Nat.le_trans (fc_le _ _ _ _) (by decide)) (fun c_140 => ?_) (fun c_140 => ?_)
                · refine lv_iconst (v := nI 0) hx hb dX8_look_146 (by decide) ?_
                  refine lv_istore_n (lv' := [(3, .int (nI 0)), (0, .ref (b 0)), (1, .int (nI (k + 1))), (2, .int (nI a_))]) hx hb dX8_look_147 rfl hl (by decide) rfl (fun ls hl => ?_)
                  have lp_148 : ∀ (nf : Nat) (c : Nat) (sg4 : Nat → Nat) (nx4 : Nat → Nat), (c ≤ ey) → (LKb u le ey k a_ c fa1 sg4 nx4) → (∀ x, x < ey → nx4 x ≤ 8) → ey - c < nf → ∀ (H : Heap) (locs : List Loc), va_P G vwCl [oM b st tp bt (nI ey) (nI le) en (oI wo), aI cI (b 4) 1920 gr, aI cI (b 5) 1920 sp, aI cI (b 8) 8 (oF fa1), aI cI (b 9) 8 (nF sg4), aI cI (b 10) 8 (oF nx4), aI cI (b 11) 64 (nF ti1), aI cI (b 12) 64 (oF fx1)] H → va_D A [oM b st tp bt (nI ey) (nI le) en (oI wo), aI cI (b 4) 1920 gr, aI cI (b 5) 1920 sp, aI cI (b 8) 8 (oF fa1), aI cI (b 9) 8 (nF sg4), aI cI (b 10) 8 (oF nx4), aI cI (b 11) 64 (nF ti1), aI cI (b 12) 64 (oF fx1)] → va_S A s.heap H locs → ∀ (ls : Array Slot), lv_has ls 5 [(0, .ref (b 0)), (1, .int (nI (k + 1))), (2, .int (nI a_)), (3, .int (nI c))] → W pg l ev (headSpec wsX8_look ({ frames := 4, cells := 0, slots := 0, locals := 95 })).room s mt ([.ref (b 0)] : List Value).toArray below meth cd H locs 0 0 (MQ below (rwQv G [oM b st tp bt (nI ey) (nI le) en (oI wo), aI cI (b 4) 1920 gr, aI cI (b 5) 1920 sp, aI cI (b 8) 8 (oF fa), aI cI (b 9) 8 (nF sg), aI cI (b 10) 8 (oF nx), aI cI (b 11) 64 (nF ti), aI cI (b 12) 64 (oF fx)] (fun (zu : (Nat → Nat) × (Nat → Nat) × (Nat → Nat) × (Nat → Nat) × (Nat → Nat)) => match zu with | (fa2, sg2, nx2, ti2, fx2) => LF u le ey fa2 sg2 ∧ FT u le ey fx2 ti2 ey 0) (fun (zu : (Nat → Nat) × (Nat → Nat) × (Nat → Nat) × (Nat → Nat) × (Nat → Nat)) => match zu with | (fa2, sg2, nx2, ti2, fx2) => [oM b st tp bt (nI ey) (nI le) en (oI wo), aI cI (b 4) 1920 gr, aI cI (b 5) 1920 sp, aI cI (b 8) 8 (oF fa2), aI cI (b 9) 8 (nF sg2), aI cI (b 10) 8 (oF nx2), aI cI (b 11) 64 (nF ti2), aI cI (b 12) 64 (oF fx2)])) ([.ref (b 0)] : List Value).toArray s 0 0 A) (F0 mt 148 ls []) := by
                    intro nf
                    induction nf with
                    | zero => intro c sg4 nx4 hc hL4 hN4 hfu; exact absurd hfu (Nat.not_lt_zero _)
                    | succ nf ih_148 =>
                      intro c sg4 nx4 hc hL4 hN4 hfu H locs hP hD hS ls hl
                      refine lv_iload_n hx hb dX8_look_148 rfl (lv_at hl 3 rfl) ?_
                      refine lv_aload_n hx hb dX8_look_149 rfl (lv_at hl 0 rfl) ?_
                      refine va_get (D := G) (own := RX8) (ref := "SpotRowsModel") (ci := 8) (v := .int (nI ey)) (C := RX8) (T := TX8) (N := 23) hx hb hts hinX8 hown hK.1 hP 0 rfl rfl 6 (by decide) fl96 (fun _ h9 => h9) rfl dX8_look_150 ?_
                      refine nv_icmp_ge (tgt := 251) hx hb dX8_look_153 (by decide) (by first | omega | exact Nat.le_trans (fc_le _ _ _ _) (by decide)) (by first | omega | exact Nat.le_trans (fc_le _ _ _ _) (by decide)) (fun c_153 => ?_) (fun c_153 => ?_)
                      · refine lv_iinc (v := nI (a_ + 1)) (lv' := [(2, .int (nI (a_ + 1))), (0, .ref (b 0)), (1, .int (nI (k + 1))), (3, .int (nI c))]) hx hb dX8_look_251 hl (k := 2) rfl (nI_add a_ 1) (by decide) rfl (fun ls hl => ?_)
                        refine lv_goto (tgt := 125) hx hb dX8_look_254 (by decide) ?_
                        exact ih_125 (a_ + 1) sg4 nx4 (by omega) (by first | exact LKm_skip hL2 (by omega) c_140 | exact LKb_end (by omega) hL4 (by omega)) (by first | exact hN2 | exact hN4) (by omega) H locs hP hD hS ls (lvcv (l := [(0, .ref (b 0)), (1, .int (nI (k + 1))), (2, .int (nI (a_ + 1)))]) (lv_sub hl [1, 2, 0] rfl) (lvC (lvC (lvC rfl))))
                      have f1 := fa_b2 hL4 hey (by omega) (c := c) (by omega)
                      refine lv_aload_n hx hb dX8_look_156 rfl (lv_at hl 0 rfl) ?_
                      refine va_get (D := G) (own := RX8) (ref := "SpotRowsModel") (ci := 8) (v := .ref (b 8)) (C := RX8) (T := TX8) (N := 23) hx hb hts hinX8 hown hK.1 hP 0 rfl rfl 14 (by decide) fl46 (fun _ h9 => h9) rfl dX8_look_157 ?_
                      refine lv_iload_n hx hb dX8_look_160 rfl (lv_at hl 3 rfl) ?_
                      refine ld_oF hx hb hK hP 3 (k := c) rfl (by first | omega | exact Nat.le_trans (fc_le _ _ _ _) (by decide)) (by decide) dX8_look_161 ?_
                      refine lv_iload_n hx hb dX8_look_162 rfl (lv_at hl 1 rfl) ?_
                      refine lv_iconst (v := nI 1) hx hb dX8_look_163 (by decide) ?_
                      refine lv_isub hx hb dX8_look_164 ?_
                      refine toi (pk_sub (a := (k + 1)) (b := 1) (by first | omega | exact Nat.le_trans (fc_le _ _ _ _) (by decide))) ?_
                      refine non_icmp_ne (tgt := 245) hx hb dX8_look_165 (by decide) (by first | omega | exact Nat.le_trans (fc_le _ _ _ _) (by decide)) (by first | omega | exact Nat.le_trans (fc_le _ _ _ _) (by decide)) (fun c_165 => ?_) (fun c_165 => ?_)
                      · refine lv_iinc (v := nI (c + 1)) (lv' := [(3, .int (nI (c + 1))), (0, .ref (b 0)), (1, .int (nI (k + 1))), (2, .int (nI a_))]) hx hb dX8_look_245 hl (k := 3) rfl (nI_add c 1) (by decide) rfl (fun ls hl => ?_)
                        refine lv_goto (tgt := 148) hx hb dX8_look_248 (by decide) ?_
                        exact ih_148 (c + 1) sg4 nx4 (by omega) (by first | exact LKb_no hL4 (fun h => c_165 (by have h9 := fa_bb hL4 (c := c) (by omega); have h8 := h.1; omega)) | exact LKb_no hL4 (fun h => h.2 (by rw [hx1] at c_179; exact c_179)) | exact LKb_keep hL4 hcn hit c_213 (by omega) | exact LKb_put hL4 hcn hit (Or.inl c_213) | exact LKb_put hL4 hcn hit (Or.inr (by omega))) (by first | exact hN4 | exact upN_b hN4 (by omega)) (by omega) H locs hP hD hS ls (lvcv (l := [(0, .ref (b 0)), (1, .int (nI (k + 1))), (2, .int (nI a_)), (3, .int (nI (c + 1)))]) (lv_sub hl [1, 2, 3, 0] rfl) (lvC (lvC (lvC (lvC rfl)))))
                      have hfb := fa_bb hL4 (c := c) (by omega)
                      have hlb : lvl u le ey 0 k c = k + 1 := by omega
                      have hne : a_ ≠ c := by intro h; have h9 := hL4.2.1; rw [h] at h9; omega
                      have hft := hF a_ c (by omega) (by omega) (by omega)
                      have hx1 : fx1 (a_ * 8 + c) = fc u le a_ c := by rw [hft.1, if_neg hne]
                      have hx2 : ti1 (a_ * 8 + c) = cB u a_ c 240 := by rw [hft.2, if_neg hne]
                      have f3 := cB_le u a_ c 240
                      have f4 := sg_bb hL4 hey (by omega) (c := c) (by omega)
                      have f5 := sg_bb hL4 hey (by omega) (c := a_) (by omega)
                      refine lv_aload_n hx hb dX8_look_168 rfl (lv_at hl 0 rfl) ?_
                      refine va_get (D := G) (own := RX8) (ref := "SpotRowsModel") (ci := 8) (v := .ref (b 12)) (C := RX8) (T := TX8) (N := 23) hx hb hts hinX8 hown hK.1 hP 0 rfl rfl 18 (by decide) fl58 (fun _ h9 => h9) rfl dX8_look_169 ?_
                      refine lv_iload_n hx hb dX8_look_172 rfl (lv_at hl 2 rfl) ?_
                      refine lv_iload_n hx hb dX8_look_173 rfl (lv_at hl 3 rfl) ?_
                      refine cro_i (va_runS (As := [.int (nI a_), .int (nI c)]) (rest := [.ref (b 12)]) ⟨hx, hb, hml, hown, hts⟩ (c_X8_pair l G cI cJ (x := a_) (y := c) ) (va_cwS 2 hts gX8_look_X8_pair rfl rfl rfl (by decide +kernel) ⟨Nat.le_of_ble_eq_true rfl, Nat.le_of_ble_eq_true rfl⟩) (preS_ro (wc := []) hK hP [] rfl) rfl rfl hl.1 rfl (lv_room (Nat.le_of_ble_eq_true rfl)) dX8_look_174 ⟨Nat.zero_le _, Nat.zero_le _⟩) ?_
                      refine ld_oF hx hb hK hP 7 (k := a_ * 8 + c) rfl (by first | omega | exact Nat.le_trans (fc_le _ _ _ _) (by decide)) (by decide) dX8_look_177 ?_
                      have f7 : fx1 (a_ * 8 + c) ≤ 100001 := by rw [hx1]; exact fc_le _ _ _ _
                      refine lv_iconst (v := (-1)) hx hb dX8_look_178 (by decide) ?_
                      refine no_icmp_ne (tgt := 185) hx hb dX8_look_179 (by decide) (by first | omega | exact Nat.le_trans (fc_le _ _ _ _) (by decide)) (fun c_179 => ?_) (fun c_179 => ?_)
                      · have hcn : cnd u le (lvl u le ey 0 k) a_ (k + 1) c := ⟨hlb, by rw [hx1] at c_179; exact c_179⟩
                        have hit : min (sg4 c) (ti1 (a_ * 8 + c)) = min (cB u a_ c 240) (lvw u le ey 0 k c) := by rw [hx2]; exact its_eq hL4 hey (by omega) (by omega) hlb
                        refine lv_aload_n hx hb dX8_look_185 rfl (lv_at hl 0 rfl) ?_
                        refine va_get (D := G) (own := RX8) (ref := "SpotRowsModel") (ci := 8) (v := .ref (b 9)) (C := RX8) (T := TX8) (N := 23) hx hb hts hinX8 hown hK.1 hP 0 rfl rfl 15 (by decide) fl49 (fun _ h9 => h9) rfl dX8_look_186 ?_
                        refine lv_iload_n hx hb dX8_look_189 rfl (lv_at hl 3 rfl) ?_
                        refine ld_nF hx hb hK hP 4 (k := c) rfl (by first | omega | exact Nat.le_trans (fc_le _ _ _ _) (by decide)) (by decide) dX8_look_190 ?_
                        refine lv_aload_n hx hb dX8_look_191 rfl (lv_at hl 0 rfl) ?_
                        refine va_get (D := G) (own := RX8) (ref := "SpotRowsModel") (ci := 8) (v := .ref (b 11)) (C := RX8) (T := TX8) (N := 23) hx hb hts hinX8 hown hK.1 hP 0 rfl rfl 17 (by decide) fl55 (fun _ h9 => h9) rfl dX8_look_192 ?_
                        refine lv_iload_n hx hb dX8_look_195 rfl (lv_at hl 2 rfl) ?_
                        refine lv_iload_n hx hb dX8_look_196 rfl (lv_at hl 3 rfl) ?_
                        refine cro_i (va_runS (As := [.int (nI a_), .int (nI c)]) (rest := [.ref (b 11), .int (nI (sg4 c))]) ⟨hx, hb, hml, hown, hts⟩ (c_X8_pair l G cI cJ (x := a_) (y := c) ) (va_cwS 2 hts gX8_look_X8_pair rfl rfl rfl (by decide +kernel) ⟨Nat.le_of_ble_eq_true rfl, Nat.le_of_ble_eq_true rfl⟩) (preS_ro (wc := []) hK hP [] rfl) rfl rfl hl.1 rfl (lv_room (Nat.le_of_ble_eq_true rfl)) dX8_look_197 ⟨Nat.zero_le _, Nat.zero_le _⟩) ?_
                        refine ld_nF hx hb hK hP 6 (k := a_ * 8 + c) rfl (by first | omega | exact Nat.le_trans (fc_le _ _ _ _) (by decide)) (by decide) dX8_look_200 ?_
                        refine va_mmin hx hb (hml.trans hl.1.symm) (own := RX8) hown (hts (.methodLink RX8 153 Lib.Math.min.name) (by decide +kernel)) (hts (.static Lib.Math.min.name) (by decide +kernel)) (hts (.initialized "java/lang/Math") (by decide +kernel)) (hts (.code Lib.Math.min.name Lib.Math.min.code 2 (some .int)) (by decide +kernel)) (Nat.le_of_ble_eq_true rfl) (Nat.le_of_ble_eq_true rfl) (Nat.zero_le _) (Nat.zero_le _) dX8_look_201 ?_
                        refine toi (minI (by first | omega | exact Nat.le_trans (fc_le _ _ _ _) (by decide)) (by first | omega | exact Nat.le_trans (fc_le _ _ _ _) (by decide))) ?_
                        refine lv_istore (lv' := [(4, .int (nI (min (sg4 c) (ti1 (a_ * 8 + c))))), (0, .ref (b 0)), (1, .int (nI (k + 1))), (2, .int (nI a_)), (3, .int (nI c))]) hx hb dX8_look_204 hl (by decide) rfl (fun ls hl => ?_)
                        have f8 := hN4 a_ (by omega)
                        refine lv_aload_n hx hb dX8_look_206 rfl (lv_at hl 1 rfl) ?_
                        refine va_get (D := G) (own := RX8) (ref := "SpotRowsModel") (ci := 8) (v := .ref (b 10)) (C := RX8) (T := TX8) (N := 23) hx hb hts hinX8 hown hK.1 hP 0 rfl rfl 16 (by decide) fl52 (fun _ h9 => h9) rfl dX8_look_207 ?_
                        refine lv_iload_n hx hb dX8_look_210 rfl (lv_at hl 3 rfl) ?_
                        refine ld_oF hx hb hK hP 5 (k := a_) rfl (by first | omega | exact Nat.le_trans (fc_le _ _ _ _) (by decide)) (by decide) dX8_look_211 ?_
                        refine lv_iconst (v := (-1)) hx hb dX8_look_212 (by decide) ?_
                        refine no_icmp_eq (tgt := 230) hx hb dX8_look_213 (by decide) (by first | omega | exact Nat.le_trans (fc_le _ _ _ _) (by decide)) (fun c_213 => ?_) (fun c_213 => ?_)
                        · refine lv_aload_n hx hb dX8_look_230 rfl (lv_at hl 1 rfl) ?_
                          refine va_get (D := G) (own := RX8) (ref := "SpotRowsModel") (ci := 8) (v := .ref (b 9)) (C := RX8) (T := TX8) (N := 23) hx hb hts hinX8 hown hK.1 hP 0 rfl rfl 15 (by decide) fl49 (fun _ h9 => h9) rfl dX8_look_231 ?_
                          refine lv_iload_n hx hb dX8_look_234 rfl (lv_at hl 3 rfl) ?_
                          refine lv_iload hx hb dX8_look_235 (lv_at hl 0 rfl) ?_
                          refine st_nF hx hb hK hP hD hS 4 (k := a_) rfl (by first | omega | exact Nat.le_trans (fc_le _ _ _ _) (by decide)) (by decide) dX8_look_237 (fun H locs hP hD hS => ?_)
                          have hP : va_P G vwCl [oM b st tp bt (nI ey) (nI le) en (oI wo), aI cI (b 4) 1920 gr, aI cI (b 5) 1920 sp, aI cI (b 8) 8 (oF fa1), aI cI (b 9) 8 (nF (upN sg4 a_ (min (sg4 c) (ti1 (a_ * 8 + c))))), aI cI (b 10) 8 (oF nx4), aI cI (b 11) 64 (nF ti1), aI cI (b 12) 64 (oF fx1)] H := hP
                          have hD : va_D A [oM b st tp bt (nI ey) (nI le) en (oI wo), aI cI (b 4) 1920 gr, aI cI (b 5) 1920 sp, aI cI (b 8) 8 (oF fa1), aI cI (b 9) 8 (nF (upN sg4 a_ (min (sg4 c) (ti1 (a_ * 8 + c))))), aI cI (b 10) 8 (oF nx4), aI cI (b 11) 64 (nF ti1), aI cI (b 12) 64 (oF fx1)] := hD
                          refine lv_aload_n hx hb dX8_look_238 rfl (lv_at hl 1 rfl) ?_
                          refine va_get (D := G) (own := RX8) (ref := "SpotRowsModel") (ci := 8) (v := .ref (b 10)) (C := RX8) (T := TX8) (N := 23) hx hb hts hinX8 hown hK.1 hP 0 rfl rfl 16 (by decide) fl52 (fun _ h9 => h9) rfl dX8_look_239 ?_
                          refine lv_iload_n hx hb dX8_look_242 rfl (lv_at hl 3 rfl) ?_
                          refine lv_iload_n hx hb dX8_look_243 rfl (lv_at hl 4 rfl) ?_
                          refine toi (nI_o c) ?_
                          refine st_oF hx hb hK hP hD hS 5 (k := a_) rfl (by first | omega | exact Nat.le_trans (fc_le _ _ _ _) (by decide)) (by decide) dX8_look_244 (fun H locs hP hD hS => ?_)
                          have hP : va_P G vwCl [oM b st tp bt (nI ey) (nI le) en (oI wo), aI cI (b 4) 1920 gr, aI cI (b 5) 1920 sp, aI cI (b 8) 8 (oF fa1), aI cI (b 9) 8 (nF (upN sg4 a_ (min (sg4 c) (ti1 (a_ * 8 + c))))), aI cI (b 10) 8 (oF (upN nx4 a_ (c + 1))), aI cI (b 11) 64 (nF ti1), aI cI (b 12) 64 (oF fx1)] H := hP
                          have hD : va_D A [oM b st tp bt (nI ey) (nI le) en (oI wo), aI cI (b 4) 1920 gr, aI cI (b 5) 1920 sp, aI cI (b 8) 8 (oF fa1), aI cI (b 9) 8 (nF (upN sg4 a_ (min (sg4 c) (ti1 (a_ * 8 + c))))), aI cI (b 10) 8 (oF (upN nx4 a_ (c + 1))), aI cI (b 11) 64 (nF ti1), aI cI (b 12) 64 (oF fx1)] := hD
                          refine lv_iinc (v := nI (c + 1)) (lv' := [(3, .int (nI (c + 1))), (4, .int (nI (min (sg4 c) (ti1 (a_ * 8 + c))))), (0, .ref (b 0)), (1, .int (nI (k + 1))), (2, .int (nI a_))]) hx hb dX8_look_245 hl (k := 4) rfl (nI_add c 1) (by decide) rfl (fun ls hl => ?_)
                          refine lv_goto (tgt := 148) hx hb dX8_look_248 (by decide) ?_
                          exact ih_148 (c + 1) (upN sg4 a_ (min (sg4 c) (ti1 (a_ * 8 + c)))) (upN nx4 a_ (c + 1)) (by omega) (by first | exact LKb_no hL4 (fun h => c_165 (by have h9 := fa_bb hL4 (c := c) (by omega); have h8 := h.1; omega)) | exact LKb_no hL4 (fun h => h.2 (by rw [hx1] at c_179; exact c_179)) | exact LKb_keep hL4 hcn hit c_213 (by omega) | exact LKb_put hL4 hcn hit (Or.inl c_213) | exact LKb_put hL4 hcn hit (Or.inr (by omega))) (by first | exact hN4 | exact upN_b hN4 (by omega)) (by omega) H locs hP hD hS ls (lvcv (l := [(0, .ref (b 0)), (1, .int (nI (k + 1))), (2, .int (nI a_)), (3, .int (nI (c + 1)))]) (lv_sub hl [2, 3, 4, 0] rfl) (lvC (lvC (lvC (lvC rfl)))))
                        refine lv_iload hx hb dX8_look_216 (lv_at hl 0 rfl) ?_
                        refine lv_aload_n hx hb dX8_look_218 rfl (lv_at hl 1 rfl) ?_
                        refine va_get (D := G) (own := RX8) (ref := "SpotRowsModel") (ci := 8) (v := .ref (b 9)) (C := RX8) (T := TX8) (N := 23) hx hb hts hinX8 hown hK.1 hP 0 rfl rfl 15 (by decide) fl49 (fun _ h9 => h9) rfl dX8_look_219 ?_
                        refine lv_iload_n hx hb dX8_look_222 rfl (lv_at hl 3 rfl) ?_
                        refine ld_nF hx hb hK hP 4 (k := a_) rfl (by first | omega | exact Nat.le_trans (fc_le _ _ _ _) (by decide)) (by decide) dX8_look_223 ?_
                        refine nv_icmp_gt (tgt := 230) hx hb dX8_look_224 (by decide) (by first | omega | exact Nat.le_trans (fc_le _ _ _ _) (by decide)) (by first | omega | exact Nat.le_trans (fc_le _ _ _ _) (by decide)) (fun c_224 => ?_) (fun c_224 => ?_)
                        · refine lv_aload_n hx hb dX8_look_230 rfl (lv_at hl 1 rfl) ?_
                          refine va_get (D := G) (own := RX8) (ref := "SpotRowsModel") (ci := 8) (v := .ref (b 9)) (C := RX8) (T := TX8) (N := 23) hx hb hts hinX8 hown hK.1 hP 0 rfl rfl 15 (by decide) fl49 (fun _ h9 => h9) rfl dX8_look_231 ?_
                          refine lv_iload_n hx hb dX8_look_234 rfl (lv_at hl 3 rfl) ?_
                          refine lv_iload hx hb dX8_look_235 (lv_at hl 0 rfl) ?_
                          refine st_nF hx hb hK hP hD hS 4 (k := a_) rfl (by first | omega | exact Nat.le_trans (fc_le _ _ _ _) (by decide)) (by decide) dX8_look_237 (fun H locs hP hD hS => ?_)
                          have hP : va_P G vwCl [oM b st tp bt (nI ey) (nI le) en (oI wo), aI cI (b 4) 1920 gr, aI cI (b 5) 1920 sp, aI cI (b 8) 8 (oF fa1), aI cI (b 9) 8 (nF (upN sg4 a_ (min (sg4 c) (ti1 (a_ * 8 + c))))), aI cI (b 10) 8 (oF nx4), aI cI (b 11) 64 (nF ti1), aI cI (b 12) 64 (oF fx1)] H := hP
                          have hD : va_D A [oM b st tp bt (nI ey) (nI le) en (oI wo), aI cI (b 4) 1920 gr, aI cI (b 5) 1920 sp, aI cI (b 8) 8 (oF fa1), aI cI (b 9) 8 (nF (upN sg4 a_ (min (sg4 c) (ti1 (a_ * 8 + c))))), aI cI (b 10) 8 (oF nx4), aI cI (b 11) 64 (nF ti1), aI cI (b 12) 64 (oF fx1)] := hD
                          refine lv_aload_n hx hb dX8_look_238 rfl (lv_at hl 1 rfl) ?_
                          refine va_get (D := G) (own := RX8) (ref := "SpotRowsModel") (ci := 8) (v := .ref (b 10)) (C := RX8) (T := TX8) (N := 23) hx hb hts hinX8 hown hK.1 hP 0 rfl rfl 16 (by decide) fl52 (fun _ h9 => h9) rfl dX8_look_239 ?_
                          refine lv_iload_n hx hb dX8_look_242 rfl (lv_at hl 3 rfl) ?_
                          refine lv_iload_n hx hb dX8_look_243 rfl (lv_at hl 4 rfl) ?_
                          refine toi (nI_o c) ?_
                          refine st_oF hx hb hK hP hD hS 5 (k := a_) rfl (by first | omega | exact Nat.le_trans (fc_le _ _ _ _) (by decide)) (by decide) dX8_look_244 (fun H locs hP hD hS => ?_)
                          have hP : va_P G vwCl [oM b st tp bt (nI ey) (nI le) en (oI wo), aI cI (b 4) 1920 gr, aI cI (b 5) 1920 sp, aI cI (b 8) 8 (oF fa1), aI cI (b 9) 8 (nF (upN sg4 a_ (min (sg4 c) (ti1 (a_ * 8 + c))))), aI cI (b 10) 8 (oF (upN nx4 a_ (c + 1))), aI cI (b 11) 64 (nF ti1), aI cI (b 12) 64 (oF fx1)] H := hP
                          have hD : va_D A [oM b st tp bt (nI ey) (nI le) en (oI wo), aI cI (b 4) 1920 gr, aI cI (b 5) 1920 sp, aI cI (b 8) 8 (oF fa1), aI cI (b 9) 8 (nF (upN sg4 a_ (min (sg4 c) (ti1 (a_ * 8 + c))))), aI cI (b 10) 8 (oF (upN nx4 a_ (c + 1))), aI cI (b 11) 64 (nF ti1), aI cI (b 12) 64 (oF fx1)] := hD
                          refine lv_iinc (v := nI (c + 1)) (lv' := [(3, .int (nI (c + 1))), (4, .int (nI (min (sg4 c) (ti1 (a_ * 8 + c))))), (0, .ref (b 0)), (1, .int (nI (k + 1))), (2, .int (nI a_))]) hx hb dX8_look_245 hl (k := 4) rfl (nI_add c 1) (by decide) rfl (fun ls hl => ?_)
                          refine lv_goto (tgt := 148) hx hb dX8_look_248 (by decide) ?_
                          exact ih_148 (c + 1) (upN sg4 a_ (min (sg4 c) (ti1 (a_ * 8 + c)))) (upN nx4 a_ (c + 1)) (by omega) (by first | exact LKb_no hL4 (fun h => c_165 (by have h9 := fa_bb hL4 (c := c) (by omega); have h8 := h.1; omega)) | exact LKb_no hL4 (fun h => h.2 (by rw [hx1] at c_179; exact c_179)) | exact LKb_keep hL4 hcn hit c_213 (by omega) | exact LKb_put hL4 hcn hit (Or.inl c_213) | exact LKb_put hL4 hcn hit (Or.inr (by omega))) (by first | exact hN4 | exact upN_b hN4 (by omega)) (by omega) H locs hP hD hS ls (lvcv (l := [(0, .ref (b 0)), (1, .int (nI (k + 1))), (2, .int (nI a_)), (3, .int (nI (c + 1)))]) (lv_sub hl [2, 3, 4, 0] rfl) (lvC (lvC (lvC (lvC rfl)))))
                        refine lv_goto (tgt := 245) hx hb dX8_look_227 (by decide) ?_
                        refine lv_iinc (v := nI (c + 1)) (lv' := [(3, .int (nI (c + 1))), (4, .int (nI (min (sg4 c) (ti1 (a_ * 8 + c))))), (0, .ref (b 0)), (1, .int (nI (k + 1))), (2, .int (nI a_))]) hx hb dX8_look_245 hl (k := 4) rfl (nI_add c 1) (by decide) rfl (fun ls hl => ?_)
                        refine lv_goto (tgt := 148) hx hb dX8_look_248 (by decide) ?_
                        exact ih_148 (c + 1) sg4 nx4 (by omega) (by first | exact LKb_no hL4 (fun h => c_165 (by have h9 := fa_bb hL4 (c := c) (by omega); have h8 := h.1; omega)) | exact LKb_no hL4 (fun h => h.2 (by rw [hx1] at c_179; exact c_179)) | exact LKb_keep hL4 hcn hit c_213 (by omega) | exact LKb_put hL4 hcn hit (Or.inl c_213) | exact LKb_put hL4 hcn hit (Or.inr (by omega))) (by first | exact hN4 | exact upN_b hN4 (by omega)) (by omega) H locs hP hD hS ls (lvcv (l := [(0, .ref (b 0)), (1, .int (nI (k + 1))), (2, .int (nI a_)), (3, .int (nI (c + 1)))]) (lv_sub hl [2, 3, 4, 0] rfl) (lvC (lvC (lvC (lvC rfl)))))
                      refine lv_goto (tgt := 245) hx hb dX8_look_182 (by decide) ?_
                      refine lv_iinc (v := nI (c + 1)) (lv' := [(3, .int (nI (c + 1))), (0, .ref (b 0)), (1, .int (nI (k + 1))), (2, .int (nI a_))]) hx hb dX8_look_245 hl (k := 3) rfl (nI_add c 1) (by decide) rfl (fun ls hl => ?_)
                      refine lv_goto (tgt := 148) hx hb dX8_look_248 (by decide) ?_
                      exact ih_148 (c + 1) sg4 nx4 (by omega) (by first | exact LKb_no hL4 (fun h => c_165 (by have h9 := fa_bb hL4 (c := c) (by omega); have h8 := h.1; omega)) | exact LKb_no hL4 (fun h => h.2 (by rw [hx1] at c_179; exact c_179)) | exact LKb_keep hL4 hcn hit c_213 (by omega) | exact LKb_put hL4 hcn hit (Or.inl c_213) | exact LKb_put hL4 hcn hit (Or.inr (by omega))) (by first | exact hN4 | exact upN_b hN4 (by omega)) (by omega) H locs hP hD hS ls (lvcv (l := [(0, .ref (b 0)), (1, .int (nI (k + 1))), (2, .int (nI a_)), (3, .int (nI (c + 1)))]) (lv_sub hl [1, 2, 3, 0] rfl) (lvC (lvC (lvC (lvC rfl)))))
                  exact lp_148 (ey - 0 + 1) 0 sg3 nx3 (by omega) (by exact LKb_0 (by omega) hL2 c_140) (by exact hN2) (by omega) _ _ hP hD hS ls (lvcv (l := [(0, .ref (b 0)), (1, .int (nI (k + 1))), (2, .int (nI a_)), (3, .int (nI 0))]) (lv_sub hl [1, 2, 3, 0] rfl) (lvC (lvC (lvC (lvC rfl)))))
                refine lv_goto (tgt := 251) hx hb dX8_look_143 (by decide) ?_
                refine lv_iinc (v := nI (a_ + 1)) (lv' := [(2, .int (nI (a_ + 1))), (0, .ref (b 0)), (1, .int (nI (k + 1)))]) hx hb dX8_look_251 hl (k := 2) rfl (nI_add a_ 1) (by decide) rfl (fun ls hl => ?_)
                refine lv_goto (tgt := 125) hx hb dX8_look_254 (by decide) ?_
                exact ih_125 (a_ + 1) sg3 nx3 (by omega) (by first | exact LKm_skip hL2 (by omega) c_140 | exact LKb_end (by omega) hL4 (by omega)) (by first | exact hN2 | exact hN4) (by omega) H locs hP hD hS ls (lvcv (l := [(0, .ref (b 0)), (1, .int (nI (k + 1))), (2, .int (nI (a_ + 1)))]) (lv_sub hl [1, 2, 0] rfl) (lvC (lvC (lvC rfl))))
            exact lp_125 (ey - 1 + 1) 1 sg1 nx1 (by omega) (by exact hL) (by exact hN) (by omega) _ _ hP hD hS ls (lvcv (l := [(0, .ref (b 0)), (1, .int (nI (k + 1))), (2, .int (nI 1))]) (lv_sub hl [1, 2, 0] rfl) (lvC (lvC (lvC rfl))))
        exact lp_115 (8 - 0 + 1) 0 fa1 sg1 nx1 (by omega) (by exact LK_0 (fun x hx => hI x (by omega))) (by intro x hx; rw [(hI x (by omega)).2.2]; omega) (by omega) _ _ hP hD hS ls (lvcv (l := [(0, .ref (b 0)), (1, .int (nI 1))]) (lv_sub hl [1, 0] rfl) (lvC (lvI (congrArg nI (show 1 = (0 + 1) from by rfl)) rfl)))
      refine lv_iconst (v := nI 0) hx hb dX8_look_10 (by decide) ?_
      refine lv_istore_n (lv' := [(2, .int (nI 0)), (0, .ref (b 0)), (1, .int (nI a))]) hx hb dX8_look_11 rfl hl (by decide) rfl (fun ls hl => ?_)
      have lp_12 : ∀ (nf : Nat) (c : Nat) (ti3 : Nat → Nat) (fx3 : Nat → Nat), (c ≤ ey) → (FT u le ey fx3 ti3 a c) → ey - c < nf → ∀ (H : Heap) (locs : List Loc), va_P G vwCl [oM b st tp bt (nI ey) (nI le) en (oI wo), aI cI (b 4) 1920 gr, aI cI (b 5) 1920 sp, aI cI (b 8) 8 (oF fa1), aI cI (b 9) 8 (nF sg1), aI cI (b 10) 8 (oF nx1), aI cI (b 11) 64 (nF ti3), aI cI (b 12) 64 (oF fx3)] H → va_D A [oM b st tp bt (nI ey) (nI le) en (oI wo), aI cI (b 4) 1920 gr, aI cI (b 5) 1920 sp, aI cI (b 8) 8 (oF fa1), aI cI (b 9) 8 (nF sg1), aI cI (b 10) 8 (oF nx1), aI cI (b 11) 64 (nF ti3), aI cI (b 12) 64 (oF fx3)] → va_S A s.heap H locs → ∀ (ls : Array Slot), lv_has ls 5 [(0, .ref (b 0)), (1, .int (nI a)), (2, .int (nI c))] → W pg l ev (headSpec wsX8_look ({ frames := 4, cells := 0, slots := 0, locals := 95 })).room s mt ([.ref (b 0)] : List Value).toArray below meth cd H locs 0 0 (MQ below (rwQv G [oM b st tp bt (nI ey) (nI le) en (oI wo), aI cI (b 4) 1920 gr, aI cI (b 5) 1920 sp, aI cI (b 8) 8 (oF fa), aI cI (b 9) 8 (nF sg), aI cI (b 10) 8 (oF nx), aI cI (b 11) 64 (nF ti), aI cI (b 12) 64 (oF fx)] (fun (zu : (Nat → Nat) × (Nat → Nat) × (Nat → Nat) × (Nat → Nat) × (Nat → Nat)) => match zu with | (fa2, sg2, nx2, ti2, fx2) => LF u le ey fa2 sg2 ∧ FT u le ey fx2 ti2 ey 0) (fun (zu : (Nat → Nat) × (Nat → Nat) × (Nat → Nat) × (Nat → Nat) × (Nat → Nat)) => match zu with | (fa2, sg2, nx2, ti2, fx2) => [oM b st tp bt (nI ey) (nI le) en (oI wo), aI cI (b 4) 1920 gr, aI cI (b 5) 1920 sp, aI cI (b 8) 8 (oF fa2), aI cI (b 9) 8 (nF sg2), aI cI (b 10) 8 (oF nx2), aI cI (b 11) 64 (nF ti2), aI cI (b 12) 64 (oF fx2)])) ([.ref (b 0)] : List Value).toArray s 0 0 A) (F0 mt 12 ls []) := by
        intro nf
        induction nf with
        | zero => intro c ti3 fx3 hc hF2 hfu; exact absurd hfu (Nat.not_lt_zero _)
        | succ nf ih_12 =>
          intro c ti3 fx3 hc hF2 hfu H locs hP hD hS ls hl
          refine lv_iload_n hx hb dX8_look_12 rfl (lv_at hl 2 rfl) ?_
          refine lv_aload_n hx hb dX8_look_13 rfl (lv_at hl 0 rfl) ?_
          refine va_get (D := G) (own := RX8) (ref := "SpotRowsModel") (ci := 8) (v := .int (nI ey)) (C := RX8) (T := TX8) (N := 23) hx hb hts hinX8 hown hK.1 hP 0 rfl rfl 6 (by decide) fl96 (fun _ h9 => h9) rfl dX8_look_14 ?_
          refine nv_icmp_ge (tgt := 76) hx hb dX8_look_17 (by decide) (by first | omega | exact Nat.le_trans (fc_le _ _ _ _) (by decide)) (by first | omega | exact Nat.le_trans (fc_le _ _ _ _) (by decide)) (fun c_17 => ?_) (fun c_17 => ?_)
          · refine lv_aload_n hx hb dX8_look_76 rfl (lv_at hl 0 rfl) ?_
            refine va_get (D := G) (own := RX8) (ref := "SpotRowsModel") (ci := 8) (v := .ref (b 8)) (C := RX8) (T := TX8) (N := 23) hx hb hts hinX8 hown hK.1 hP 0 rfl rfl 14 (by decide) fl46 (fun _ h9 => h9) rfl dX8_look_77 ?_
            refine lv_iload_n hx hb dX8_look_80 rfl (lv_at hl 1 rfl) ?_
            refine lv_iload_n hx hb dX8_look_81 rfl (lv_at hl 1 rfl) ?_
            refine nv_if_ne (tgt := 89) hx hb dX8_look_82 (by decide) (by first | omega | exact Nat.le_trans (fc_le _ _ _ _) (by decide)) (fun c_82 => ?_) (fun c_82 => ?_)
            · refine lv_iconst (v := (-1)) hx hb dX8_look_89 (by decide) ?_
              refine toi m1_o ?_
              refine st_oF hx hb hK hP hD hS 3 (k := a) rfl (by first | omega | exact Nat.le_trans (fc_le _ _ _ _) (by decide)) (by decide) dX8_look_90 (fun H locs hP hD hS => ?_)
              have hP : va_P G vwCl [oM b st tp bt (nI ey) (nI le) en (oI wo), aI cI (b 4) 1920 gr, aI cI (b 5) 1920 sp, aI cI (b 8) 8 (oF (upN fa1 a 0)), aI cI (b 9) 8 (nF sg1), aI cI (b 10) 8 (oF nx1), aI cI (b 11) 64 (nF ti3), aI cI (b 12) 64 (oF fx3)] H := hP
              have hD : va_D A [oM b st tp bt (nI ey) (nI le) en (oI wo), aI cI (b 4) 1920 gr, aI cI (b 5) 1920 sp, aI cI (b 8) 8 (oF (upN fa1 a 0)), aI cI (b 9) 8 (nF sg1), aI cI (b 10) 8 (oF nx1), aI cI (b 11) 64 (nF ti3), aI cI (b 12) 64 (oF fx3)] := hD
              refine lv_aload_n hx hb dX8_look_91 rfl (lv_at hl 0 rfl) ?_
              refine va_get (D := G) (own := RX8) (ref := "SpotRowsModel") (ci := 8) (v := .ref (b 9)) (C := RX8) (T := TX8) (N := 23) hx hb hts hinX8 hown hK.1 hP 0 rfl rfl 15 (by decide) fl49 (fun _ h9 => h9) rfl dX8_look_92 ?_
              refine lv_iload_n hx hb dX8_look_95 rfl (lv_at hl 1 rfl) ?_
              refine lv_sipush (v := nI 241) hx hb dX8_look_96 (by decide) ?_
              refine st_nF hx hb hK hP hD hS 4 (k := a) rfl (by first | omega | exact Nat.le_trans (fc_le _ _ _ _) (by decide)) (by decide) dX8_look_99 (fun H locs hP hD hS => ?_)
              have hP : va_P G vwCl [oM b st tp bt (nI ey) (nI le) en (oI wo), aI cI (b 4) 1920 gr, aI cI (b 5) 1920 sp, aI cI (b 8) 8 (oF (upN fa1 a 0)), aI cI (b 9) 8 (nF (upN sg1 a 241)), aI cI (b 10) 8 (oF nx1), aI cI (b 11) 64 (nF ti3), aI cI (b 12) 64 (oF fx3)] H := hP
              have hD : va_D A [oM b st tp bt (nI ey) (nI le) en (oI wo), aI cI (b 4) 1920 gr, aI cI (b 5) 1920 sp, aI cI (b 8) 8 (oF (upN fa1 a 0)), aI cI (b 9) 8 (nF (upN sg1 a 241)), aI cI (b 10) 8 (oF nx1), aI cI (b 11) 64 (nF ti3), aI cI (b 12) 64 (oF fx3)] := hD
              refine lv_aload_n hx hb dX8_look_100 rfl (lv_at hl 0 rfl) ?_
              refine va_get (D := G) (own := RX8) (ref := "SpotRowsModel") (ci := 8) (v := .ref (b 10)) (C := RX8) (T := TX8) (N := 23) hx hb hts hinX8 hown hK.1 hP 0 rfl rfl 16 (by decide) fl52 (fun _ h9 => h9) rfl dX8_look_101 ?_
              refine lv_iload_n hx hb dX8_look_104 rfl (lv_at hl 1 rfl) ?_
              refine lv_iconst (v := (-1)) hx hb dX8_look_105 (by decide) ?_
              refine toi m1_o ?_
              refine st_oF hx hb hK hP hD hS 5 (k := a) rfl (by first | omega | exact Nat.le_trans (fc_le _ _ _ _) (by decide)) (by decide) dX8_look_106 (fun H locs hP hD hS => ?_)
              have hP : va_P G vwCl [oM b st tp bt (nI ey) (nI le) en (oI wo), aI cI (b 4) 1920 gr, aI cI (b 5) 1920 sp, aI cI (b 8) 8 (oF (upN fa1 a 0)), aI cI (b 9) 8 (nF (upN sg1 a 241)), aI cI (b 10) 8 (oF (upN nx1 a 0)), aI cI (b 11) 64 (nF ti3), aI cI (b 12) 64 (oF fx3)] H := hP
              have hD : va_D A [oM b st tp bt (nI ey) (nI le) en (oI wo), aI cI (b 4) 1920 gr, aI cI (b 5) 1920 sp, aI cI (b 8) 8 (oF (upN fa1 a 0)), aI cI (b 9) 8 (nF (upN sg1 a 241)), aI cI (b 10) 8 (oF (upN nx1 a 0)), aI cI (b 11) 64 (nF ti3), aI cI (b 12) 64 (oF fx3)] := hD
              refine lv_iinc (v := nI (a + 1)) (lv' := [(1, .int (nI (a + 1))), (0, .ref (b 0)), (2, .int (nI c))]) hx hb dX8_look_107 hl (k := 1) rfl (nI_add a 1) (by decide) rfl (fun ls hl => ?_)
              refine lv_goto (tgt := 2) hx hb dX8_look_110 (by decide) ?_
              exact ih_2 (a + 1) (upN fa1 a 0) (upN sg1 a 241) (upN nx1 a 0) ti3 fx3 (by omega) (by exact FT_n hF2 c_17) (by first | exact I0_s hI (by rw [if_pos c_82]) | exact I0_s hI (by rw [if_neg c_82])) (by omega) H locs hP hD hS ls (lvcv (l := [(0, .ref (b 0)), (1, .int (nI (a + 1)))]) (lv_sub hl [1, 0] rfl) (lvC (lvC rfl)))
            refine lv_iconst (v := nI 0) hx hb dX8_look_85 (by decide) ?_
            refine lv_goto (tgt := 90) hx hb dX8_look_86 (by decide) ?_
            refine toi (nI_o 0) ?_
            refine st_oF hx hb hK hP hD hS 3 (k := a) rfl (by first | omega | exact Nat.le_trans (fc_le _ _ _ _) (by decide)) (by decide) dX8_look_90 (fun H locs hP hD hS => ?_)
            have hP : va_P G vwCl [oM b st tp bt (nI ey) (nI le) en (oI wo), aI cI (b 4) 1920 gr, aI cI (b 5) 1920 sp, aI cI (b 8) 8 (oF (upN fa1 a (0 + 1))), aI cI (b 9) 8 (nF sg1), aI cI (b 10) 8 (oF nx1), aI cI (b 11) 64 (nF ti3), aI cI (b 12) 64 (oF fx3)] H := hP
            have hD : va_D A [oM b st tp bt (nI ey) (nI le) en (oI wo), aI cI (b 4) 1920 gr, aI cI (b 5) 1920 sp, aI cI (b 8) 8 (oF (upN fa1 a (0 + 1))), aI cI (b 9) 8 (nF sg1), aI cI (b 10) 8 (oF nx1), aI cI (b 11) 64 (nF ti3), aI cI (b 12) 64 (oF fx3)] := hD
            refine lv_aload_n hx hb dX8_look_91 rfl (lv_at hl 0 rfl) ?_
            refine va_get (D := G) (own := RX8) (ref := "SpotRowsModel") (ci := 8) (v := .ref (b 9)) (C := RX8) (T := TX8) (N := 23) hx hb hts hinX8 hown hK.1 hP 0 rfl rfl 15 (by decide) fl49 (fun _ h9 => h9) rfl dX8_look_92 ?_
            refine lv_iload_n hx hb dX8_look_95 rfl (lv_at hl 1 rfl) ?_
            refine lv_sipush (v := nI 241) hx hb dX8_look_96 (by decide) ?_
            refine st_nF hx hb hK hP hD hS 4 (k := a) rfl (by first | omega | exact Nat.le_trans (fc_le _ _ _ _) (by decide)) (by decide) dX8_look_99 (fun H locs hP hD hS => ?_)
            have hP : va_P G vwCl [oM b st tp bt (nI ey) (nI le) en (oI wo), aI cI (b 4) 1920 gr, aI cI (b 5) 1920 sp, aI cI (b 8) 8 (oF (upN fa1 a (0 + 1))), aI cI (b 9) 8 (nF (upN sg1 a 241)), aI cI (b 10) 8 (oF nx1), aI cI (b 11) 64 (nF ti3), aI cI (b 12) 64 (oF fx3)] H := hP
            have hD : va_D A [oM b st tp bt (nI ey) (nI le) en (oI wo), aI cI (b 4) 1920 gr, aI cI (b 5) 1920 sp, aI cI (b 8) 8 (oF (upN fa1 a (0 + 1))), aI cI (b 9) 8 (nF (upN sg1 a 241)), aI cI (b 10) 8 (oF nx1), aI cI (b 11) 64 (nF ti3), aI cI (b 12) 64 (oF fx3)] := hD
            refine lv_aload_n hx hb dX8_look_100 rfl (lv_at hl 0 rfl) ?_
            refine va_get (D := G) (own := RX8) (ref := "SpotRowsModel") (ci := 8) (v := .ref (b 10)) (C := RX8) (T := TX8) (N := 23) hx hb hts hinX8 hown hK.1 hP 0 rfl rfl 16 (by decide) fl52 (fun _ h9 => h9) rfl dX8_look_101 ?_
            refine lv_iload_n hx hb dX8_look_104 rfl (lv_at hl 1 rfl) ?_
            refine lv_iconst (v := (-1)) hx hb dX8_look_105 (by decide) ?_
            refine toi m1_o ?_
            refine st_oF hx hb hK hP hD hS 5 (k := a) rfl (by first | omega | exact Nat.le_trans (fc_le _ _ _ _) (by decide)) (by decide) dX8_look_106 (fun H locs hP hD hS => ?_)
            have hP : va_P G vwCl [oM b st tp bt (nI ey) (nI le) en (oI wo), aI cI (b 4) 1920 gr, aI cI (b 5) 1920 sp, aI cI (b 8) 8 (oF (upN fa1 a (0 + 1))), aI cI (b 9) 8 (nF (upN sg1 a 241)), aI cI (b 10) 8 (oF (upN nx1 a 0)), aI cI (b 11) 64 (nF ti3), aI cI (b 12) 64 (oF fx3)] H := hP
            have hD : va_D A [oM b st tp bt (nI ey) (nI le) en (oI wo), aI cI (b 4) 1920 gr, aI cI (b 5) 1920 sp, aI cI (b 8) 8 (oF (upN fa1 a (0 + 1))), aI cI (b 9) 8 (nF (upN sg1 a 241)), aI cI (b 10) 8 (oF (upN nx1 a 0)), aI cI (b 11) 64 (nF ti3), aI cI (b 12) 64 (oF fx3)] := hD
            refine lv_iinc (v := nI (a + 1)) (lv' := [(1, .int (nI (a + 1))), (0, .ref (b 0)), (2, .int (nI c))]) hx hb dX8_look_107 hl (k := 1) rfl (nI_add a 1) (by decide) rfl (fun ls hl => ?_)
            refine lv_goto (tgt := 2) hx hb dX8_look_110 (by decide) ?_
            exact ih_2 (a + 1) (upN fa1 a (0 + 1)) (upN sg1 a 241) (upN nx1 a 0) ti3 fx3 (by omega) (by exact FT_n hF2 c_17) (by first | exact I0_s hI (by rw [if_pos c_82]) | exact I0_s hI (by rw [if_neg c_82])) (by omega) H locs hP hD hS ls (lvcv (l := [(0, .ref (b 0)), (1, .int (nI (a + 1)))]) (lv_sub hl [1, 0] rfl) (lvC (lvC rfl)))
          refine lv_aload_n hx hb dX8_look_20 rfl (lv_at hl 0 rfl) ?_
          refine va_get (D := G) (own := RX8) (ref := "SpotRowsModel") (ci := 8) (v := .ref (b 12)) (C := RX8) (T := TX8) (N := 23) hx hb hts hinX8 hown hK.1 hP 0 rfl rfl 18 (by decide) fl58 (fun _ h9 => h9) rfl dX8_look_21 ?_
          refine lv_iload_n hx hb dX8_look_24 rfl (lv_at hl 1 rfl) ?_
          refine lv_iload_n hx hb dX8_look_25 rfl (lv_at hl 2 rfl) ?_
          refine cro_i (va_runS (As := [.int (nI a), .int (nI c)]) (rest := [.ref (b 12)]) ⟨hx, hb, hml, hown, hts⟩ (c_X8_pair l G cI cJ (x := a) (y := c) ) (va_cwS 2 hts gX8_look_X8_pair rfl rfl rfl (by decide +kernel) ⟨Nat.le_of_ble_eq_true rfl, Nat.le_of_ble_eq_true rfl⟩) (preS_ro (wc := []) hK hP [] rfl) rfl rfl hl.1 rfl (lv_room (Nat.le_of_ble_eq_true rfl)) dX8_look_26 ⟨Nat.zero_le _, Nat.zero_le _⟩) ?_
          refine lv_iload_n hx hb dX8_look_29 rfl (lv_at hl 1 rfl) ?_
          refine lv_iload_n hx hb dX8_look_30 rfl (lv_at hl 2 rfl) ?_
          refine nv_icmp_ne (tgt := 38) hx hb dX8_look_31 (by decide) (by first | omega | exact Nat.le_trans (fc_le _ _ _ _) (by decide)) (by first | omega | exact Nat.le_trans (fc_le _ _ _ _) (by decide)) (fun c_31 => ?_) (fun c_31 => ?_)
          · refine lv_aload_n hx hb dX8_look_38 rfl (lv_at hl 0 rfl) ?_
            refine lv_iload_n hx hb dX8_look_39 rfl (lv_at hl 1 rfl) ?_
            refine lv_iload_n hx hb dX8_look_40 rfl (lv_at hl 2 rfl) ?_
            refine cro_i (va_runV (As := [.int (nI a), .int (nI c)]) (rest := [.int (nI (a * 8 + c)), .ref (b 12)]) ⟨hx, hb, hml, hown, hts⟩ (c_X8_factorOf l G cI cJ (b := b) (st := st) (tp := tp) (bt := bt) (ey := ey) (le := le) (en := en) (wo := wo) (t := t) (u := u) (gr := gr) (sp := sp) (x := a) (y := c) (tb := by first | assumption | omega) (hey := by first | assumption | omega) (hG := by first | assumption | omega) (hu := by first | assumption | omega) (hwo := by first | assumption | omega) (tbu := by first | assumption | omega) (h_x := by first | assumption | omega) (h_y := by first | assumption | omega) (hle := by first | assumption | omega)) (cwV 2 hts gX8_look_X8_factorOf rfl rfl rfl (by decide +kernel) ⟨Nat.le_of_ble_eq_true rfl, Nat.le_of_ble_eq_true rfl⟩) (preV_ro (wc := [oM b st tp bt (nI ey) (nI le) en (oI wo), aI cI (b 4) 1920 gr, aI cI (b 5) 1920 sp]) hK hP [0, 1, 2] rfl 8 0 rfl rfl rfl) rfl rfl hl.1 rfl (lv_room (Nat.le_of_ble_eq_true rfl)) dX8_look_41 ⟨Nat.zero_le _, Nat.zero_le _⟩) ?_
            refine st_oF hx hb hK hP hD hS 7 (k := a * 8 + c) rfl (by first | omega | exact Nat.le_trans (fc_le _ _ _ _) (by decide)) (by decide) dX8_look_44 (fun H locs hP hD hS => ?_)
            have hP : va_P G vwCl [oM b st tp bt (nI ey) (nI le) en (oI wo), aI cI (b 4) 1920 gr, aI cI (b 5) 1920 sp, aI cI (b 8) 8 (oF fa1), aI cI (b 9) 8 (nF sg1), aI cI (b 10) 8 (oF nx1), aI cI (b 11) 64 (nF ti3), aI cI (b 12) 64 (oF (upN fx3 (a * 8 + c) (fc u le a c)))] H := hP
            have hD : va_D A [oM b st tp bt (nI ey) (nI le) en (oI wo), aI cI (b 4) 1920 gr, aI cI (b 5) 1920 sp, aI cI (b 8) 8 (oF fa1), aI cI (b 9) 8 (nF sg1), aI cI (b 10) 8 (oF nx1), aI cI (b 11) 64 (nF ti3), aI cI (b 12) 64 (oF (upN fx3 (a * 8 + c) (fc u le a c)))] := hD
            refine lv_aload_n hx hb dX8_look_45 rfl (lv_at hl 0 rfl) ?_
            refine va_get (D := G) (own := RX8) (ref := "SpotRowsModel") (ci := 8) (v := .ref (b 11)) (C := RX8) (T := TX8) (N := 23) hx hb hts hinX8 hown hK.1 hP 0 rfl rfl 17 (by decide) fl55 (fun _ h9 => h9) rfl dX8_look_46 ?_
            refine lv_iload_n hx hb dX8_look_49 rfl (lv_at hl 1 rfl) ?_
            refine lv_iload_n hx hb dX8_look_50 rfl (lv_at hl 2 rfl) ?_
            refine cro_i (va_runS (As := [.int (nI a), .int (nI c)]) (rest := [.ref (b 11)]) ⟨hx, hb, hml, hown, hts⟩ (c_X8_pair l G cI cJ (x := a) (y := c) ) (va_cwS 2 hts gX8_look_X8_pair rfl rfl rfl (by decide +kernel) ⟨Nat.le_of_ble_eq_true rfl, Nat.le_of_ble_eq_true rfl⟩) (preS_ro (wc := []) hK hP [] rfl) rfl rfl hl.1 rfl (lv_room (Nat.le_of_ble_eq_true rfl)) dX8_look_51 ⟨Nat.zero_le _, Nat.zero_le _⟩) ?_
            refine lv_iload_n hx hb dX8_look_54 rfl (lv_at hl 1 rfl) ?_
            refine lv_iload_n hx hb dX8_look_55 rfl (lv_at hl 2 rfl) ?_
            refine nv_icmp_ne (tgt := 63) hx hb dX8_look_56 (by decide) (by first | omega | exact Nat.le_trans (fc_le _ _ _ _) (by decide)) (by first | omega | exact Nat.le_trans (fc_le _ _ _ _) (by decide)) (fun c_56 => ?_) (fun c_56 => ?_)
            · refine lv_aload_n hx hb dX8_look_63 rfl (lv_at hl 0 rfl) ?_
              refine lv_iload_n hx hb dX8_look_64 rfl (lv_at hl 1 rfl) ?_
              refine lv_iload_n hx hb dX8_look_65 rfl (lv_at hl 2 rfl) ?_
              refine cro_i (va_runV (As := [.int (nI a), .int (nI c)]) (rest := [.int (nI (a * 8 + c)), .ref (b 11)]) ⟨hx, hb, hml, hown, hts⟩ (c_X8_bothOf l G cI cJ (b := b) (st := st) (tp := tp) (bt := bt) (ey := ey) (le := le) (en := en) (wo := wo) (t := t) (u := u) (gr := gr) (sp := sp) (x := a) (y := c) (tb := by first | assumption | omega) (hey := by first | assumption | omega) (hG := by first | assumption | omega) (hu := by first | assumption | omega) (hwo := by first | assumption | omega) (h_x := by first | assumption | omega) (h_y := by first | assumption | omega)) (cwV 2 hts gX8_look_X8_bothOf rfl rfl rfl (by decide +kernel) ⟨Nat.le_of_ble_eq_true rfl, Nat.le_of_ble_eq_true rfl⟩) (preV_ro (wc := [oM b st tp bt (nI ey) (nI le) en (oI wo), aI cI (b 4) 1920 gr]) hK hP [0, 1] rfl 8 0 rfl rfl rfl) rfl rfl hl.1 rfl (lv_room (Nat.le_of_ble_eq_true rfl)) dX8_look_66 ⟨Nat.zero_le _, Nat.zero_le _⟩) ?_
              refine st_nF hx hb hK hP hD hS 6 (k := a * 8 + c) rfl (by first | omega | exact Nat.le_trans (fc_le _ _ _ _) (by decide)) (by decide) dX8_look_69 (fun H locs hP hD hS => ?_)
              have hP : va_P G vwCl [oM b st tp bt (nI ey) (nI le) en (oI wo), aI cI (b 4) 1920 gr, aI cI (b 5) 1920 sp, aI cI (b 8) 8 (oF fa1), aI cI (b 9) 8 (nF sg1), aI cI (b 10) 8 (oF nx1), aI cI (b 11) 64 (nF (upN ti3 (a * 8 + c) (cB u a c 240))), aI cI (b 12) 64 (oF (upN fx3 (a * 8 + c) (fc u le a c)))] H := hP
              have hD : va_D A [oM b st tp bt (nI ey) (nI le) en (oI wo), aI cI (b 4) 1920 gr, aI cI (b 5) 1920 sp, aI cI (b 8) 8 (oF fa1), aI cI (b 9) 8 (nF sg1), aI cI (b 10) 8 (oF nx1), aI cI (b 11) 64 (nF (upN ti3 (a * 8 + c) (cB u a c 240))), aI cI (b 12) 64 (oF (upN fx3 (a * 8 + c) (fc u le a c)))] := hD
              refine lv_iinc (v := nI (c + 1)) (lv' := [(2, .int (nI (c + 1))), (0, .ref (b 0)), (1, .int (nI a))]) hx hb dX8_look_70 hl (k := 2) rfl (nI_add c 1) (by decide) rfl (fun ls hl => ?_)
              refine lv_goto (tgt := 12) hx hb dX8_look_73 (by decide) ?_
              exact ih_12 (c + 1) (upN ti3 (a * 8 + c) (cB u a c 240)) (upN fx3 (a * 8 + c) (fc u le a c)) (by omega) (by first | exact FT_s hey (by omega) hF2 (by rw [if_pos c_31]) (by rw [if_pos c_56]) | exact FT_s hey (by omega) hF2 (by rw [if_neg c_31]) (by rw [if_neg c_56]) | exact absurd c_31 c_56 | exact absurd c_56 c_31) (by omega) H locs hP hD hS ls (lvcv (l := [(0, .ref (b 0)), (1, .int (nI a)), (2, .int (nI (c + 1)))]) (lv_sub hl [1, 2, 0] rfl) (lvC (lvC (lvC rfl))))
            refine lv_iconst (v := nI 0) hx hb dX8_look_59 (by decide) ?_
            refine lv_goto (tgt := 69) hx hb dX8_look_60 (by decide) ?_
            refine st_nF hx hb hK hP hD hS 6 (k := a * 8 + c) rfl (by first | omega | exact Nat.le_trans (fc_le _ _ _ _) (by decide)) (by decide) dX8_look_69 (fun H locs hP hD hS => ?_)
            have hP : va_P G vwCl [oM b st tp bt (nI ey) (nI le) en (oI wo), aI cI (b 4) 1920 gr, aI cI (b 5) 1920 sp, aI cI (b 8) 8 (oF fa1), aI cI (b 9) 8 (nF sg1), aI cI (b 10) 8 (oF nx1), aI cI (b 11) 64 (nF (upN ti3 (a * 8 + c) 0)), aI cI (b 12) 64 (oF (upN fx3 (a * 8 + c) (fc u le a c)))] H := hP
            have hD : va_D A [oM b st tp bt (nI ey) (nI le) en (oI wo), aI cI (b 4) 1920 gr, aI cI (b 5) 1920 sp, aI cI (b 8) 8 (oF fa1), aI cI (b 9) 8 (nF sg1), aI cI (b 10) 8 (oF nx1), aI cI (b 11) 64 (nF (upN ti3 (a * 8 + c) 0)), aI cI (b 12) 64 (oF (upN fx3 (a * 8 + c) (fc u le a c)))] := hD
            refine lv_iinc (v := nI (c + 1)) (lv' := [(2, .int (nI (c + 1))), (0, .ref (b 0)), (1, .int (nI a))]) hx hb dX8_look_70 hl (k := 2) rfl (nI_add c 1) (by decide) rfl (fun ls hl => ?_)
            refine lv_goto (tgt := 12) hx hb dX8_look_73 (by decide) ?_
            exact ih_12 (c + 1) (upN ti3 (a * 8 + c) 0) (upN fx3 (a * 8 + c) (fc u le a c)) (by omega) (by first | exact FT_s hey (by omega) hF2 (by rw [if_pos c_31]) (by rw [if_pos c_56]) | exact FT_s hey (by omega) hF2 (by rw [if_neg c_31]) (by rw [if_neg c_56]) | exact absurd c_31 c_56 | exact absurd c_56 c_31) (by omega) H locs hP hD hS ls (lvcv (l := [(0, .ref (b 0)), (1, .int (nI a)), (2, .int (nI (c + 1)))]) (lv_sub hl [1, 2, 0] rfl) (lvC (lvC (lvC rfl))))
          refine lv_iconst (v := (-1)) hx hb dX8_look_34 (by decide) ?_
          refine lv_goto (tgt := 44) hx hb dX8_look_35 (by decide) ?_
          refine toi m1_o ?_
          refine st_oF hx hb hK hP hD hS 7 (k := a * 8 + c) rfl (by first | omega | exact Nat.le_trans (fc_le _ _ _ _) (by decide)) (by decide) dX8_look_44 (fun H locs hP hD hS => ?_)
          have hP : va_P G vwCl [oM b st tp bt (nI ey) (nI le) en (oI wo), aI cI (b 4) 1920 gr, aI cI (b 5) 1920 sp, aI cI (b 8) 8 (oF fa1), aI cI (b 9) 8 (nF sg1), aI cI (b 10) 8 (oF nx1), aI cI (b 11) 64 (nF ti3), aI cI (b 12) 64 (oF (upN fx3 (a * 8 + c) 0))] H := hP
          have hD : va_D A [oM b st tp bt (nI ey) (nI le) en (oI wo), aI cI (b 4) 1920 gr, aI cI (b 5) 1920 sp, aI cI (b 8) 8 (oF fa1), aI cI (b 9) 8 (nF sg1), aI cI (b 10) 8 (oF nx1), aI cI (b 11) 64 (nF ti3), aI cI (b 12) 64 (oF (upN fx3 (a * 8 + c) 0))] := hD
          refine lv_aload_n hx hb dX8_look_45 rfl (lv_at hl 0 rfl) ?_
          refine va_get (D := G) (own := RX8) (ref := "SpotRowsModel") (ci := 8) (v := .ref (b 11)) (C := RX8) (T := TX8) (N := 23) hx hb hts hinX8 hown hK.1 hP 0 rfl rfl 17 (by decide) fl55 (fun _ h9 => h9) rfl dX8_look_46 ?_
          refine lv_iload_n hx hb dX8_look_49 rfl (lv_at hl 1 rfl) ?_
          refine lv_iload_n hx hb dX8_look_50 rfl (lv_at hl 2 rfl) ?_
          refine cro_i (va_runS (As := [.int (nI a), .int (nI c)]) (rest := [.ref (b 11)]) ⟨hx, hb, hml, hown, hts⟩ (c_X8_pair l G cI cJ (x := a) (y := c) ) (va_cwS 2 hts gX8_look_X8_pair rfl rfl rfl (by decide +kernel) ⟨Nat.le_of_ble_eq_true rfl, Nat.le_of_ble_eq_true rfl⟩) (preS_ro (wc := []) hK hP [] rfl) rfl rfl hl.1 rfl (lv_room (Nat.le_of_ble_eq_true rfl)) dX8_look_51 ⟨Nat.zero_le _, Nat.zero_le _⟩) ?_
          refine lv_iload_n hx hb dX8_look_54 rfl (lv_at hl 1 rfl) ?_
          refine lv_iload_n hx hb dX8_look_55 rfl (lv_at hl 2 rfl) ?_
          refine nv_icmp_ne (tgt := 63) hx hb dX8_look_56 (by decide) (by first | omega | exact Nat.le_trans (fc_le _ _ _ _) (by decide)) (by first | omega | exact Nat.le_trans (fc_le _ _ _ _) (by decide)) (fun c_56 => ?_) (fun c_56 => ?_)
          · refine lv_aload_n hx hb dX8_look_63 rfl (lv_at hl 0 rfl) ?_
            refine lv_iload_n hx hb dX8_look_64 rfl (lv_at hl 1 rfl) ?_
            refine lv_iload_n hx hb dX8_look_65 rfl (lv_at hl 2 rfl) ?_
            refine cro_i (va_runV (As := [.int (nI a), .int (nI c)]) (rest := [.int (nI (a * 8 + c)), .ref (b 11)]) ⟨hx, hb, hml, hown, hts⟩ (c_X8_bothOf l G cI cJ (b := b) (st := st) (tp := tp) (bt := bt) (ey := ey) (le := le) (en := en) (wo := wo) (t := t) (u := u) (gr := gr) (sp := sp) (x := a) (y := c) (tb := by first | assumption | omega) (hey := by first | assumption | omega) (hG := by first | assumption | omega) (hu := by first | assumption | omega) (hwo := by first | assumption | omega) (h_x := by first | assumption | omega) (h_y := by first | assumption | omega)) (cwV 2 hts gX8_look_X8_bothOf rfl rfl rfl (by decide +kernel) ⟨Nat.le_of_ble_eq_true rfl, Nat.le_of_ble_eq_true rfl⟩) (preV_ro (wc := [oM b st tp bt (nI ey) (nI le) en (oI wo), aI cI (b 4) 1920 gr]) hK hP [0, 1] rfl 8 0 rfl rfl rfl) rfl rfl hl.1 rfl (lv_room (Nat.le_of_ble_eq_true rfl)) dX8_look_66 ⟨Nat.zero_le _, Nat.zero_le _⟩) ?_
            refine st_nF hx hb hK hP hD hS 6 (k := a * 8 + c) rfl (by first | omega | exact Nat.le_trans (fc_le _ _ _ _) (by decide)) (by decide) dX8_look_69 (fun H locs hP hD hS => ?_)
            have hP : va_P G vwCl [oM b st tp bt (nI ey) (nI le) en (oI wo), aI cI (b 4) 1920 gr, aI cI (b 5) 1920 sp, aI cI (b 8) 8 (oF fa1), aI cI (b 9) 8 (nF sg1), aI cI (b 10) 8 (oF nx1), aI cI (b 11) 64 (nF (upN ti3 (a * 8 + c) (cB u a c 240))), aI cI (b 12) 64 (oF (upN fx3 (a * 8 + c) 0))] H := hP
            have hD : va_D A [oM b st tp bt (nI ey) (nI le) en (oI wo), aI cI (b 4) 1920 gr, aI cI (b 5) 1920 sp, aI cI (b 8) 8 (oF fa1), aI cI (b 9) 8 (nF sg1), aI cI (b 10) 8 (oF nx1), aI cI (b 11) 64 (nF (upN ti3 (a * 8 + c) (cB u a c 240))), aI cI (b 12) 64 (oF (upN fx3 (a * 8 + c) 0))] := hD
            refine lv_iinc (v := nI (c + 1)) (lv' := [(2, .int (nI (c + 1))), (0, .ref (b 0)), (1, .int (nI a))]) hx hb dX8_look_70 hl (k := 2) rfl (nI_add c 1) (by decide) rfl (fun ls hl => ?_)
            refine lv_goto (tgt := 12) hx hb dX8_look_73 (by decide) ?_
            exact ih_12 (c + 1) (upN ti3 (a * 8 + c) (cB u a c 240)) (upN fx3 (a * 8 + c) 0) (by omega) (by first | exact FT_s hey (by omega) hF2 (by rw [if_pos c_31]) (by rw [if_pos c_56]) | exact FT_s hey (by omega) hF2 (by rw [if_neg c_31]) (by rw [if_neg c_56]) | exact absurd c_31 c_56 | exact absurd c_56 c_31) (by omega) H locs hP hD hS ls (lvcv (l := [(0, .ref (b 0)), (1, .int (nI a)), (2, .int (nI (c + 1)))]) (lv_sub hl [1, 2, 0] rfl) (lvC (lvC (lvC rfl))))
          refine lv_iconst (v := nI 0) hx hb dX8_look_59 (by decide) ?_
          refine lv_goto (tgt := 69) hx hb dX8_look_60 (by decide) ?_
          refine st_nF hx hb hK hP hD hS 6 (k := a * 8 + c) rfl (by first | omega | exact Nat.le_trans (fc_le _ _ _ _) (by decide)) (by decide) dX8_look_69 (fun H locs hP hD hS => ?_)
          have hP : va_P G vwCl [oM b st tp bt (nI ey) (nI le) en (oI wo), aI cI (b 4) 1920 gr, aI cI (b 5) 1920 sp, aI cI (b 8) 8 (oF fa1), aI cI (b 9) 8 (nF sg1), aI cI (b 10) 8 (oF nx1), aI cI (b 11) 64 (nF (upN ti3 (a * 8 + c) 0)), aI cI (b 12) 64 (oF (upN fx3 (a * 8 + c) 0))] H := hP
          have hD : va_D A [oM b st tp bt (nI ey) (nI le) en (oI wo), aI cI (b 4) 1920 gr, aI cI (b 5) 1920 sp, aI cI (b 8) 8 (oF fa1), aI cI (b 9) 8 (nF sg1), aI cI (b 10) 8 (oF nx1), aI cI (b 11) 64 (nF (upN ti3 (a * 8 + c) 0)), aI cI (b 12) 64 (oF (upN fx3 (a * 8 + c) 0))] := hD
          refine lv_iinc (v := nI (c + 1)) (lv' := [(2, .int (nI (c + 1))), (0, .ref (b 0)), (1, .int (nI a))]) hx hb dX8_look_70 hl (k := 2) rfl (nI_add c 1) (by decide) rfl (fun ls hl => ?_)
          refine lv_goto (tgt := 12) hx hb dX8_look_73 (by decide) ?_
          exact ih_12 (c + 1) (upN ti3 (a * 8 + c) 0) (upN fx3 (a * 8 + c) 0) (by omega) (by first | exact FT_s hey (by omega) hF2 (by rw [if_pos c_31]) (by rw [if_pos c_56]) | exact FT_s hey (by omega) hF2 (by rw [if_neg c_31]) (by rw [if_neg c_56]) | exact absurd c_31 c_56 | exact absurd c_56 c_31) (by omega) H locs hP hD hS ls (lvcv (l := [(0, .ref (b 0)), (1, .int (nI a)), (2, .int (nI (c + 1)))]) (lv_sub hl [1, 2, 0] rfl) (lvC (lvC (lvC rfl))))
      exact lp_12 (ey - 0 + 1) 0 ti1 fx1 (by omega) (by exact hF) (by omega) _ _ hP hD hS ls (lvcv (l := [(0, .ref (b 0)), (1, .int (nI a)), (2, .int (nI 0))]) (lv_sub hl [1, 2, 0] rfl) (lvC (lvC (lvC rfl))))
  exact lp_2 (ey - 0 + 1) 0 fa sg nx ti fx (by omega) (by intro x y h1 h2 h3; omega) (by intro x hx; omega) (by omega) _ _ hP hD hS ls (lvcv (l := [(0, .ref (b 0)), (1, .int (nI 0))]) (lv_sub hl [1, 0] rfl) (lvC (lvC rfl)))
