set_option maxHeartbeats 400000 in
set_option maxRecDepth 100000 in
theorem c_J7_rangeCheck_23922 (l : Launch) (G : va_G) (cI cJ : ClassId) (n : Nat) (lo : Nat) (hi : Nat) (h1 : lo ≤ hi) (h2 : hi ≤ n) (h3 : n < 2 ^ 31) : Met l yJ7_rangeCheck_23922 wsJ7_rangeCheck_23922 ({ frames := 1, cells := 0, slots := 0, locals := 60 }) (roP G cI cJ [.int (nI n), .int (nI lo), .int (nI hi)] []) (va_Sv (fun _ => True)) 0 0 (fun _ => False) := by
  refine Met.ofW (cc := cJ7_rangeCheck_23922) (maxL := 3) (ret := none) (by decide) rfl ?_
  intro pg ev s mt args below meth cd s₁ B hml hv
  obtain ⟨rfl, hP, hK⟩ := hv
  have hx := B.exec
  have hb := B.bytes
  have hr := B.returns
  have hts := atoms_spec (ws := wsJ7_rangeCheck_23922) B.pre
  have hown : s.vm.findClass RJ7 = some mt.cls := findClass_of_methodNamed B.named
  have hlocks := B.notSynchronized
  have hP : va_P G vwCl [] s.heap := hP
  have hl := lv_entry ([.int (nI n), .int (nI lo), .int (nI hi)]) (n := 3) (Nat.le_of_ble_eq_true rfl)
  rw [lg_entry_eq]
  generalize (lg_sl ([.int (nI n), .int (nI lo), .int (nI hi)]) ++ List.replicate (3 - (lg_sl ([.int (nI n), .int (nI lo), .int (nI hi)])).length) Slot.unset).toArray = ls at hl ⊢
  have hl : lv_has ls 3 [(0, .int (nI n)), (1, .int (nI lo)), (2, .int (nI hi))] := hl
  refine lv_iload_n hx hb dJ7_rangeCheck_23922_0 rfl (lv_at hl 1 rfl) ?_
  refine lv_iload_n hx hb dJ7_rangeCheck_23922_1 rfl (lv_at hl 2 rfl) ?_
  refine nv_icmp_le (tgt := 46) hx hb dJ7_rangeCheck_23922_2 (by decide) (by omega) (by omega) (fun c_2 => ?_) (fun c_2 => ?_)
  · refine lv_iload_n hx hb dJ7_rangeCheck_23922_46 rfl (lv_at hl 1 rfl) ?_
    refine nv_if_ge (tgt := 59) hx hb dJ7_rangeCheck_23922_47 (by decide) (by omega) ?_
    refine lv_iload_n hx hb dJ7_rangeCheck_23922_59 rfl (lv_at hl 2 rfl) ?_
    refine lv_iload_n hx hb dJ7_rangeCheck_23922_60 rfl (lv_at hl 0 rfl) ?_
    refine nv_icmp_le (tgt := 73) hx hb dJ7_rangeCheck_23922_61 (by decide) (by omega) (by omega) (fun c_61 => ?_) (fun c_61 => ?_)
    · exact W.vret hx hb hr (fun zt ht zw => ⟨rfl, trivial, ht⟩) (fun q hq => absurd hq List.not_mem_nil) dJ7_rangeCheck_23922_73
    exact absurd c_61 (by omega)
  exact absurd c_2 (by omega)

set_option maxHeartbeats 400000 in
set_option maxRecDepth 100000 in
theorem c_J7_fill_53178 (l : Launch) (G : va_G) (cI cJ : ClassId) (q : Nat) (n : Nat) (f : Nat → Int32) (v : Int32) (h3 : n < 2 ^ 31) : Met l yJ7_fill_53178 wsJ7_fill_53178 ({ frames := 0, cells := 0, slots := 0, locals := 0 }) (rwP G cI cJ [.ref q, .int v] [aI cI (q) n f]) (rwQv G [aI cI (q) n f] (fun (_ : Unit) => True) (fun (_ : Unit) => [aI cI (q) n (fil f v 0 n)])) 0 0 (ads [aI cI (q) n f]) := by
  refine Met.ofW (cc := cJ7_fill_53178) (maxL := 4) (ret := none) (by decide) rfl ?_
  intro pg ev s mt args below meth cd s₁ B hml hv
  obtain ⟨rfl, hP, hD0, hK⟩ := hv
  have hx := B.exec
  have hb := B.bytes
  have hr := B.returns
  have hts := atoms_spec (ws := wsJ7_fill_53178) B.pre
  have hown : s.vm.findClass RJ7 = some mt.cls := findClass_of_methodNamed B.named
  have hlocks := B.notSynchronized
  have hD := ads_self hD0
  generalize hAe : ads [aI cI (q) n f] = A at hD ⊢
  have hS : va_S A s.heap s.heap [] := va_S.rf
  have hP : va_P G vwCl [aI cI (q) n f] s.heap := hP
  have hl := lv_entry ([.ref q, .int v]) (n := 4) (Nat.le_of_ble_eq_true rfl)
  rw [lg_entry_eq]
  generalize (lg_sl ([.ref q, .int v]) ++ List.replicate (4 - (lg_sl ([.ref q, .int v])).length) Slot.unset).toArray = ls at hl ⊢
  have hl : lv_has ls 4 [(0, .ref q), (1, .int v)] := hl
  refine lv_iconst (v := nI 0) hx hb dJ7_fill_53178_0 (by decide) ?_
  refine lv_istore_n (lv' := [(2, .int (nI 0)), (0, .ref q), (1, .int v)]) hx hb dJ7_fill_53178_1 rfl hl (by decide) rfl (fun ls hl => ?_)
  refine lv_aload_n hx hb dJ7_fill_53178_2 rfl (lv_at hl 1 rfl) ?_
  refine va_alen (v := nI n) hx hb hK.1 hP 0 0 rfl rfl rfl dJ7_fill_53178_3 ?_
  refine lv_istore_n (lv' := [(3, .int (nI n)), (2, .int (nI 0)), (0, .ref q), (1, .int v)]) hx hb dJ7_fill_53178_4 rfl hl (by decide) rfl (fun ls hl => ?_)
  have lp_5 : ∀ (nf : Nat) (k : Nat), k ≤ n → n - k < nf → ∀ (H : Heap) (locs : List Loc), va_P G vwCl [aI cI (q) n (fil f v 0 k)] H → va_D A [aI cI (q) n (fil f v 0 k)] → va_S A s.heap H locs → ∀ (ls : Array Slot), lv_has ls 4 [(0, .ref q), (1, .int v), (2, .int (nI k)), (3, .int (nI n))] → W pg l ev (headSpec wsJ7_fill_53178 ({ frames := 0, cells := 0, slots := 0, locals := 0 })).room s mt ([.ref q, .int v] : List Value).toArray below meth cd H locs 0 0 (MQ below (rwQv G [aI cI (q) n f] (fun (_ : Unit) => True) (fun (_ : Unit) => [aI cI (q) n (fil f v 0 n)])) ([.ref q, .int v] : List Value).toArray s 0 0 A) (F0 mt 5 ls []) := by
    intro nf
    induction nf with
    | zero => intro k hk hfu; exact absurd hfu (Nat.not_lt_zero _)
    | succ nf ih_5 =>
      intro k hk hfu H locs hP hD hS ls hl
      refine lv_iload_n hx hb dJ7_fill_53178_5 rfl (lv_at hl 2 rfl) ?_
      refine lv_iload_n hx hb dJ7_fill_53178_6 rfl (lv_at hl 3 rfl) ?_
      refine nv_icmp_ge (tgt := 20) hx hb dJ7_fill_53178_7 (by decide) (by omega) (by omega) (fun c_7 => ?_) (fun c_7 => ?_)
      · have hP : va_P G vwCl [aI cI (q) n (fil f v 0 n)] H := by
          have ew : ([aI cI (q) n (fil f v 0 k)] : va_W) = [aI cI (q) n (fil f v 0 n)] := (wvC (congrArg (fun z => aI cI (q) n z) (show (fil f v 0 k) = (fil f v 0 n) from by rw [show k = n from by omega])) rfl)
          rw [← ew]; exact hP
        exact W.vret hx hb hr (fun zt ht zw => ⟨⟨(), rfl, trivial, by show va_P _ _ _ zt.heap; rw [ht]; exact hP⟩, by rw [hAe]; exact hS.F ht⟩) hS.2.2 dJ7_fill_53178_20
      refine lv_aload_n hx hb dJ7_fill_53178_10 rfl (lv_at hl 0 rfl) ?_
      refine lv_iload_n hx hb dJ7_fill_53178_11 rfl (lv_at hl 2 rfl) ?_
      refine lv_iload_n hx hb dJ7_fill_53178_12 rfl (lv_at hl 1 rfl) ?_
      refine st_I hx hb hK hP hD hS 0 (k := k) rfl (by omega) (by omega) dJ7_fill_53178_13 (fun H locs hP hD hS => ?_)
      have hP : va_P G vwCl [aI cI (q) n (upN (fil f v 0 k) k v)] H := hP
      have hD : va_D A [aI cI (q) n (upN (fil f v 0 k) k v)] := hD
      refine lv_iinc (v := nI (k + 1)) (lv' := [(2, .int (nI (k + 1))), (0, .ref q), (1, .int v), (3, .int (nI n))]) hx hb dJ7_fill_53178_14 hl (k := 2) rfl (nI_add k 1) (by decide) rfl (fun ls hl => ?_)
      refine lv_goto (tgt := 5) hx hb dJ7_fill_53178_17 (by decide) ?_
      have hw_5 : ([aI cI (q) n (upN (fil f v 0 k) k v)] : va_W) = [aI cI (q) n (fil f v 0 (k + 1))] := (wvC (congrArg (fun z => aI cI (q) n z) (show upN (fil f v 0 k) k v = fil f v 0 (k + 1) from by exact fil_s f v (by omega))) rfl)
      exact ih_5 (k + 1) (by first | rfl | omega | (simp_all; done)) (by omega) H locs (hw_5 ▸ hP) (hw_5 ▸ hD) hS ls (lvcv (l := [(0, .ref q), (1, .int v), (2, .int (nI (k + 1))), (3, .int (nI n))]) (lv_sub hl [1, 2, 0, 3] rfl) (lvC (lvC (lvC (lvC rfl)))))
  have hw_5 : ([aI cI (q) n f] : va_W) = [aI cI (q) n (fil f v 0 0)] := (wvC (congrArg (fun z => aI cI (q) n z) (show f = fil f v 0 0 from by exact (fil_0 f v 0).symm)) rfl)
  exact lp_5 (n - 0 + 1) 0 (by first | rfl | omega | (simp_all; done)) (by omega) _ _ (hw_5 ▸ hP) (hw_5 ▸ hD) hS ls (lvcv (l := [(0, .ref q), (1, .int v), (2, .int (nI 0)), (3, .int (nI n))]) (lv_sub hl [2, 3, 1, 0] rfl) (lvC (lvC (lvC (lvC rfl)))))

set_option maxHeartbeats 400000 in
set_option maxRecDepth 100000 in
theorem c_J7_fill_bad5a (l : Launch) (G : va_G) (cI cJ : ClassId) (q : Nat) (n : Nat) (f : Nat → Int64) (lo : Nat) (hi : Nat) (v : Int64) (h1 : lo ≤ hi) (h2 : hi ≤ n) (h3 : n < 2 ^ 31) : Met l yJ7_fill_bad5a wsJ7_fill_bad5a ({ frames := 2, cells := 0, slots := 0, locals := 82 }) (rwP G cI cJ [.ref q, .int (nI lo), .int (nI hi), .long v] [aJ cJ (q) n f]) (rwQv G [aJ cJ (q) n f] (fun (_ : Unit) => True) (fun (_ : Unit) => [aJ cJ (q) n (fil f v lo hi)])) 0 0 (ads [aJ cJ (q) n f]) := by
  refine Met.ofW (cc := cJ7_fill_bad5a) (maxL := 6) (ret := none) (by decide) rfl ?_
  intro pg ev s mt args below meth cd s₁ B hml hv
  obtain ⟨rfl, hP, hD0, hK⟩ := hv
  have hx := B.exec
  have hb := B.bytes
  have hr := B.returns
  have hts := atoms_spec (ws := wsJ7_fill_bad5a) B.pre
  have hown : s.vm.findClass RJ7 = some mt.cls := findClass_of_methodNamed B.named
  have hlocks := B.notSynchronized
  have hD := ads_self hD0
  generalize hAe : ads [aJ cJ (q) n f] = A at hD ⊢
  have hS : va_S A s.heap s.heap [] := va_S.rf
  have hP : va_P G vwCl [aJ cJ (q) n f] s.heap := hP
  have hl := lv_entry ([.ref q, .int (nI lo), .int (nI hi), .long v]) (n := 6) (Nat.le_of_ble_eq_true rfl)
  rw [lg_entry_eq]
  generalize (lg_sl ([.ref q, .int (nI lo), .int (nI hi), .long v]) ++ List.replicate (6 - (lg_sl ([.ref q, .int (nI lo), .int (nI hi), .long v])).length) Slot.unset).toArray = ls at hl ⊢
  have hl : lv_has ls 6 [(0, .ref q), (1, .int (nI lo)), (2, .int (nI hi)), (3, .long v)] := hl
  refine lv_aload_n hx hb dJ7_fill_bad5a_0 rfl (lv_at hl 0 rfl) ?_
  refine va_alen (v := nI n) hx hb hK.1 hP 0 1 rfl rfl rfl dJ7_fill_bad5a_1 ?_
  refine lv_iload_n hx hb dJ7_fill_bad5a_2 rfl (lv_at hl 1 rfl) ?_
  refine lv_iload_n hx hb dJ7_fill_bad5a_3 rfl (lv_at hl 2 rfl) ?_
  refine cro_v (va_runS (As := [.int (nI n), .int (nI lo), .int (nI hi)]) (rest := []) ⟨hx, hb, hml, hown, hts⟩ (c_J7_rangeCheck_23922 l G cI cJ (n := n) (lo := lo) (hi := hi) (h1 := by first | assumption | omega) (h2 := by first | assumption | omega) (h3 := by first | assumption | omega)) (va_cwS 3 hts gJ7_fill_bad5a_J7_rangeCheck_23922 rfl rfl rfl (by decide +kernel) ⟨Nat.le_of_ble_eq_true rfl, Nat.le_of_ble_eq_true rfl⟩) (preS_ro (wc := []) hK hP [] rfl) rfl rfl hl.1 rfl (lv_room (Nat.le_of_ble_eq_true rfl)) dJ7_fill_bad5a_4 ⟨Nat.zero_le _, Nat.zero_le _⟩) ?_
  refine lv_iload_n hx hb dJ7_fill_bad5a_7 rfl (lv_at hl 1 rfl) ?_
  refine lv_istore (lv' := [(5, .int (nI lo)), (0, .ref q), (1, .int (nI lo)), (2, .int (nI hi)), (3, .long v)]) hx hb dJ7_fill_bad5a_8 hl (by decide) rfl (fun ls hl => ?_)
  have lp_10 : ∀ (nf : Nat) (k : Nat), lo ≤ k ∧ k ≤ hi → hi - k < nf → ∀ (H : Heap) (locs : List Loc), va_P G vwCl [aJ cJ (q) n (fil f v lo k)] H → va_D A [aJ cJ (q) n (fil f v lo k)] → va_S A s.heap H locs → ∀ (ls : Array Slot), lv_has ls 6 [(0, .ref q), (1, .int (nI lo)), (2, .int (nI hi)), (3, .long v), (5, .int (nI k))] → W pg l ev (headSpec wsJ7_fill_bad5a ({ frames := 2, cells := 0, slots := 0, locals := 82 })).room s mt ([.ref q, .int (nI lo), .int (nI hi), .long v] : List Value).toArray below meth cd H locs 0 0 (MQ below (rwQv G [aJ cJ (q) n f] (fun (_ : Unit) => True) (fun (_ : Unit) => [aJ cJ (q) n (fil f v lo hi)])) ([.ref q, .int (nI lo), .int (nI hi), .long v] : List Value).toArray s 0 0 A) (F0 mt 10 ls []) := by
    intro nf
    induction nf with
    | zero => intro k hk hfu; exact absurd hfu (Nat.not_lt_zero _)
    | succ nf ih_10 =>
      intro k hk hfu H locs hP hD hS ls hl
      refine lv_iload hx hb dJ7_fill_bad5a_10 (lv_at hl 4 rfl) ?_
      refine lv_iload_n hx hb dJ7_fill_bad5a_12 rfl (lv_at hl 2 rfl) ?_
      refine nv_icmp_ge (tgt := 27) hx hb dJ7_fill_bad5a_13 (by decide) (by omega) (by omega) (fun c_13 => ?_) (fun c_13 => ?_)
      · have hP : va_P G vwCl [aJ cJ (q) n (fil f v lo hi)] H := by
          have ew : ([aJ cJ (q) n (fil f v lo k)] : va_W) = [aJ cJ (q) n (fil f v lo hi)] := (wvC (congrArg (fun z => aJ cJ (q) n z) (show (fil f v lo k) = (fil f v lo hi) from by rw [show k = hi from by omega])) rfl)
          rw [← ew]; exact hP
        exact W.vret hx hb hr (fun zt ht zw => ⟨⟨(), rfl, trivial, by show va_P _ _ _ zt.heap; rw [ht]; exact hP⟩, by rw [hAe]; exact hS.F ht⟩) hS.2.2 dJ7_fill_bad5a_27
      refine lv_aload_n hx hb dJ7_fill_bad5a_16 rfl (lv_at hl 0 rfl) ?_
      refine lv_iload hx hb dJ7_fill_bad5a_17 (lv_at hl 4 rfl) ?_
      refine lv_lload_n hx hb dJ7_fill_bad5a_19 rfl (lv_at hl 3 rfl) ?_
      refine st_J hx hb hK hP hD hS 0 (k := k) rfl (by omega) (by omega) dJ7_fill_bad5a_20 (fun H locs hP hD hS => ?_)
      have hP : va_P G vwCl [aJ cJ (q) n (upN (fil f v lo k) k v)] H := hP
      have hD : va_D A [aJ cJ (q) n (upN (fil f v lo k) k v)] := hD
      refine lv_iinc (v := nI (k + 1)) (lv' := [(5, .int (nI (k + 1))), (0, .ref q), (1, .int (nI lo)), (2, .int (nI hi)), (3, .long v)]) hx hb dJ7_fill_bad5a_21 hl (k := 4) rfl (nI_add k 1) (by decide) rfl (fun ls hl => ?_)
      refine lv_goto (tgt := 10) hx hb dJ7_fill_bad5a_24 (by decide) ?_
      have hw_10 : ([aJ cJ (q) n (upN (fil f v lo k) k v)] : va_W) = [aJ cJ (q) n (fil f v lo (k + 1))] := (wvC (congrArg (fun z => aJ cJ (q) n z) (show upN (fil f v lo k) k v = fil f v lo (k + 1) from by exact fil_s f v (by omega))) rfl)
      exact ih_10 (k + 1) (by first | rfl | omega | (simp_all; done)) (by omega) H locs (hw_10 ▸ hP) (hw_10 ▸ hD) hS ls (lvcv (l := [(0, .ref q), (1, .int (nI lo)), (2, .int (nI hi)), (3, .long v), (5, .int (nI (k + 1)))]) (lv_sub hl [1, 2, 3, 4, 0] rfl) (lvC (lvC (lvC (lvC (lvC rfl))))))
  have hw_10 : ([aJ cJ (q) n f] : va_W) = [aJ cJ (q) n (fil f v lo lo)] := (wvC (congrArg (fun z => aJ cJ (q) n z) (show f = fil f v lo lo from by exact (fil_0 f v lo).symm)) rfl)
  exact lp_10 (hi - lo + 1) lo (by first | rfl | omega | (simp_all; done)) (by omega) _ _ (hw_10 ▸ hP) (hw_10 ▸ hD) hS ls (lvcv (l := [(0, .ref q), (1, .int (nI lo)), (2, .int (nI hi)), (3, .long v), (5, .int (nI lo))]) (lv_sub hl [1, 2, 3, 4, 0] rfl) (lvC (lvC (lvC (lvC (lvC rfl))))))

set_option maxHeartbeats 400000 in
set_option maxRecDepth 100000 in
theorem c_X6_isSort (l : Launch) (G : va_G) (cI cJ : ClassId) (x : Int32)  : Met l yX6_isSort wsX6_isSort ({ frames := 0, cells := 0, slots := 0, locals := 0 }) (roP G cI cJ [.int x] []) (vp_Si (fun r => r = bi (rg x 4))) 0 0 (fun _ => False) := by
  refine Met.ofW (cc := cX6_isSort) (maxL := 1) (ret := (some .boolean)) (by decide) rfl ?_
  intro pg ev s mt args below meth cd s₁ B hml hv
  obtain ⟨rfl, hP, hK⟩ := hv
  have hx := B.exec
  have hb := B.bytes
  have hr := B.returns
  have hts := atoms_spec (ws := wsX6_isSort) B.pre
  have hown : s.vm.findClass RX6 = some mt.cls := findClass_of_methodNamed B.named
  have hlocks := B.notSynchronized
  have hP : va_P G vwCl [] s.heap := hP
  have hl := lv_entry ([.int x]) (n := 1) (Nat.le_of_ble_eq_true rfl)
  rw [lg_entry_eq]
  generalize (lg_sl ([.int x]) ++ List.replicate (1 - (lg_sl ([.int x])).length) Slot.unset).toArray = ls at hl ⊢
  have hl : lv_has ls 1 [(0, .int x)] := hl
  refine lv_iload_n hx hb dX6_isSort_0 rfl (lv_at hl 0 rfl) ?_
  refine lv_if_lt (tgt := 13) hx hb dX6_isSort_1 (by decide) (fun c_1 => ?_) (fun c_1 => ?_)
  · refine lv_iconst (v := nI 0) hx hb dX6_isSort_13 (by decide) ?_
    exact W.zret (v := nI 0) hx hb hr rfl (fun zt ht zw => ⟨_, rfl, (show nI 0 = bi (rg x 4) from (bi_f (by (simp only [rg, Int32.lt_iff_toInt_lt, Int32.le_iff_toInt_le, nI_toInt (show 3 < 2 ^ 31 by decide), show (0 : Int32).toInt = 0 from by decide] at *); omega)).symm), ht⟩) (fun q hq => absurd hq List.not_mem_nil) dX6_isSort_14
  refine lv_iload_n hx hb dX6_isSort_4 rfl (lv_at hl 0 rfl) ?_
  refine lv_iconst (v := nI 3) hx hb dX6_isSort_5 (by decide) ?_
  refine lv_icmp_gt (tgt := 13) hx hb dX6_isSort_6 (by decide) (fun c_6 => ?_) (fun c_6 => ?_)
  · refine lv_iconst (v := nI 0) hx hb dX6_isSort_13 (by decide) ?_
    exact W.zret (v := nI 0) hx hb hr rfl (fun zt ht zw => ⟨_, rfl, (show nI 0 = bi (rg x 4) from (bi_f (by (simp only [rg, Int32.lt_iff_toInt_lt, Int32.le_iff_toInt_le, nI_toInt (show 3 < 2 ^ 31 by decide), show (0 : Int32).toInt = 0 from by decide] at *); omega)).symm), ht⟩) (fun q hq => absurd hq List.not_mem_nil) dX6_isSort_14
  refine lv_iconst (v := nI 1) hx hb dX6_isSort_9 (by decide) ?_
  refine lv_goto (tgt := 14) hx hb dX6_isSort_10 (by decide) ?_
  exact W.zret (v := nI 1) hx hb hr rfl (fun zt ht zw => ⟨_, rfl, (show nI 1 = bi (rg x 4) from (bi_t (by (simp only [rg, Int32.lt_iff_toInt_lt, Int32.le_iff_toInt_le, nI_toInt (show 3 < 2 ^ 31 by decide), show (0 : Int32).toInt = 0 from by decide] at *); omega)).symm), ht⟩) (fun q hq => absurd hq List.not_mem_nil) dX6_isSort_14

set_option maxHeartbeats 400000 in
set_option maxRecDepth 100000 in
theorem c_X6_isMissing (l : Launch) (G : va_G) (cI cJ : ClassId) (a : Nat → Nat) (so : Nat → Nat) (sz : Nat → Nat) (tr : Nat) (ts : TS so sz) (h1 : tr < 4) : Met l yX6_isMissing wsX6_isMissing ({ frames := 0, cells := 0, slots := 0, locals := 0 }) (roP G cI cJ [.ref (a 1), .int (nI tr)] [oTr a, aI cI (a 9) 4 (oF so)]) (vp_Si (fun r => r = bi (so tr = 0))) 0 0 (fun _ => False) := by
  refine Met.ofW (cc := cX6_isMissing) (maxL := 2) (ret := (some .boolean)) (by decide) rfl ?_
  intro pg ev s mt args below meth cd s₁ B hml hv
  obtain ⟨rfl, hP, hK⟩ := hv
  have hx := B.exec
  have hb := B.bytes
  have hr := B.returns
  have hts := atoms_spec (ws := wsX6_isMissing) B.pre
  have hown : s.vm.findClass RX6 = some mt.cls := findClass_of_methodNamed B.named
  have hlocks := B.notSynchronized
  have hP : va_P G vwCl [oTr a, aI cI (a 9) 4 (oF so)] s.heap := hP
  have hinX6 := (show ∀ w ∈ u_ws RX6 TX6 3, w ∈ wsX6_isMissing by decide +kernel)
  have fl15 := hts (.fieldLink RX6 15 "SpotRows$Trays" "sorts" "[I") (by decide +kernel)
  have hl := lv_entry ([.ref (a 1), .int (nI tr)]) (n := 2) (Nat.le_of_ble_eq_true rfl)
  rw [lg_entry_eq]
  generalize (lg_sl ([.ref (a 1), .int (nI tr)]) ++ List.replicate (2 - (lg_sl ([.ref (a 1), .int (nI tr)])).length) Slot.unset).toArray = ls at hl ⊢
  have hl : lv_has ls 2 [(0, .ref (a 1)), (1, .int (nI tr))] := hl
  refine lv_aload_n hx hb dX6_isMissing_0 rfl (lv_at hl 0 rfl) ?_
  refine va_get (D := G) (own := RX6) (ref := "SpotRows$Trays") (ci := 6) (v := .ref (a 9)) (C := RX6) (T := TX6) (N := 3) hx hb hts hinX6 hown hK.1 hP 0 rfl rfl 1 (by decide) fl15 (fun _ h9 => h9) rfl dX6_isMissing_1 ?_
  refine lv_iload_n hx hb dX6_isMissing_4 rfl (lv_at hl 1 rfl) ?_
  refine ld_oF hx hb hK hP 1 (k := tr) rfl (by first | omega | (have h9 := ts _; omega) | exact Nat.le_trans (ts _).1 (by decide) | exact Nat.lt_of_le_of_lt (ts _).2 (by decide) | exact Nat.lt_of_le_of_lt (ts _).1 (by decide)) (by decide) dX6_isMissing_5 ?_
  refine lv_iconst (v := (-1)) hx hb dX6_isMissing_6 (by decide) ?_
  refine no_icmp_ne (tgt := 14) hx hb dX6_isMissing_7 (by decide) (by first | omega | (have h9 := ts _; omega) | exact Nat.le_trans (ts _).1 (by decide) | exact Nat.lt_of_le_of_lt (ts _).2 (by decide) | exact Nat.lt_of_le_of_lt (ts _).1 (by decide)) (fun c_7 => ?_) (fun c_7 => ?_)
  · refine lv_iconst (v := nI 0) hx hb dX6_isMissing_14 (by decide) ?_
    exact W.zret (v := nI 0) hx hb hr rfl (fun zt ht zw => ⟨_, rfl, (show nI 0 = bi (so tr = 0) from (bi_f (by first | rfl | omega | (simp_all; done))).symm), ht⟩) (fun q hq => absurd hq List.not_mem_nil) dX6_isMissing_15
  refine lv_iconst (v := nI 1) hx hb dX6_isMissing_10 (by decide) ?_
  refine lv_goto (tgt := 15) hx hb dX6_isMissing_11 (by decide) ?_
  exact W.zret (v := nI 1) hx hb hr rfl (fun zt ht zw => ⟨_, rfl, (show nI 1 = bi (so tr = 0) from (bi_t (by first | rfl | omega | (simp_all; done))).symm), ht⟩) (fun q hq => absurd hq List.not_mem_nil) dX6_isMissing_15

set_option maxHeartbeats 400000 in
set_option maxRecDepth 100000 in
theorem c_X6_areAlike (l : Launch) (G : va_G) (cI cJ : ClassId) (a : Nat → Nat) (so : Nat → Nat) (sz : Nat → Nat) (x : Nat) (y : Nat) (ts : TS so sz) (h1 : x < 4) (h2 : y < 4) : Met l yX6_areAlike wsX6_areAlike ({ frames := 0, cells := 0, slots := 0, locals := 0 }) (roP G cI cJ [.ref (a 1), .int (nI x), .int (nI y)] [oTr a, aI cI (a 9) 4 (oF so)]) (vp_Si (fun r => r = bi (so x = so y))) 0 0 (fun _ => False) := by
  refine Met.ofW (cc := cX6_areAlike) (maxL := 3) (ret := (some .boolean)) (by decide) rfl ?_
  intro pg ev s mt args below meth cd s₁ B hml hv
  obtain ⟨rfl, hP, hK⟩ := hv
  have hx := B.exec
  have hb := B.bytes
  have hr := B.returns
  have hts := atoms_spec (ws := wsX6_areAlike) B.pre
  have hown : s.vm.findClass RX6 = some mt.cls := findClass_of_methodNamed B.named
  have hlocks := B.notSynchronized
  have hP : va_P G vwCl [oTr a, aI cI (a 9) 4 (oF so)] s.heap := hP
  have hinX6 := (show ∀ w ∈ u_ws RX6 TX6 3, w ∈ wsX6_areAlike by decide +kernel)
  have fl15 := hts (.fieldLink RX6 15 "SpotRows$Trays" "sorts" "[I") (by decide +kernel)
  have hl := lv_entry ([.ref (a 1), .int (nI x), .int (nI y)]) (n := 3) (Nat.le_of_ble_eq_true rfl)
  rw [lg_entry_eq]
  generalize (lg_sl ([.ref (a 1), .int (nI x), .int (nI y)]) ++ List.replicate (3 - (lg_sl ([.ref (a 1), .int (nI x), .int (nI y)])).length) Slot.unset).toArray = ls at hl ⊢
  have hl : lv_has ls 3 [(0, .ref (a 1)), (1, .int (nI x)), (2, .int (nI y))] := hl
  refine lv_aload_n hx hb dX6_areAlike_0 rfl (lv_at hl 0 rfl) ?_
  refine va_get (D := G) (own := RX6) (ref := "SpotRows$Trays") (ci := 6) (v := .ref (a 9)) (C := RX6) (T := TX6) (N := 3) hx hb hts hinX6 hown hK.1 hP 0 rfl rfl 1 (by decide) fl15 (fun _ h9 => h9) rfl dX6_areAlike_1 ?_
  refine lv_iload_n hx hb dX6_areAlike_4 rfl (lv_at hl 1 rfl) ?_
  refine ld_oF hx hb hK hP 1 (k := x) rfl (by first | omega | (have h9 := ts _; omega) | exact Nat.le_trans (ts _).1 (by decide) | exact Nat.lt_of_le_of_lt (ts _).2 (by decide) | exact Nat.lt_of_le_of_lt (ts _).1 (by decide)) (by decide) dX6_areAlike_5 ?_
  refine lv_aload_n hx hb dX6_areAlike_6 rfl (lv_at hl 0 rfl) ?_
  refine va_get (D := G) (own := RX6) (ref := "SpotRows$Trays") (ci := 6) (v := .ref (a 9)) (C := RX6) (T := TX6) (N := 3) hx hb hts hinX6 hown hK.1 hP 0 rfl rfl 1 (by decide) fl15 (fun _ h9 => h9) rfl dX6_areAlike_7 ?_
  refine lv_iload_n hx hb dX6_areAlike_10 rfl (lv_at hl 2 rfl) ?_
  refine ld_oF hx hb hK hP 1 (k := y) rfl (by first | omega | (have h9 := ts _; omega) | exact Nat.le_trans (ts _).1 (by decide) | exact Nat.lt_of_le_of_lt (ts _).2 (by decide) | exact Nat.lt_of_le_of_lt (ts _).1 (by decide)) (by decide) dX6_areAlike_11 ?_
  refine lv_icmp_ne (tgt := 19) hx hb dX6_areAlike_12 (by decide) (fun c_12 => ?_) (fun c_12 => ?_)
  · refine lv_iconst (v := nI 0) hx hb dX6_areAlike_19 (by decide) ?_
    exact W.zret (v := nI 0) hx hb hr rfl (fun zt ht zw => ⟨_, rfl, (show nI 0 = bi (so x = so y) from (bi_f (by have h8 := ts x; have h9 := ts y; rw [oI_inj (by omega) (by omega)] at c_12; exact c_12)).symm), ht⟩) (fun q hq => absurd hq List.not_mem_nil) dX6_areAlike_20
  refine lv_iconst (v := nI 1) hx hb dX6_areAlike_15 (by decide) ?_
  refine lv_goto (tgt := 20) hx hb dX6_areAlike_16 (by decide) ?_
  exact W.zret (v := nI 1) hx hb hr rfl (fun zt ht zw => ⟨_, rfl, (show nI 1 = bi (so x = so y) from (bi_t (by have h8 := ts x; have h9 := ts y; rw [oI_inj (by omega) (by omega)] at c_12; exact c_12)).symm), ht⟩) (fun q hq => absurd hq List.not_mem_nil) dX6_areAlike_20

set_option maxHeartbeats 400000 in
set_option maxRecDepth 100000 in
theorem c_X6_holds (l : Launch) (G : va_G) (cI cJ : ClassId) (a : Nat → Nat) (so : Nat → Nat) (sz : Nat → Nat) (tr : Nat) (pl : Nat) (mn : Nat) (ts : TS so sz) (h1 : tr < 4) (h2 : pl < 2 ^ 31) (h3 : mn < 2 ^ 31) : Met l yX6_holds wsX6_holds ({ frames := 0, cells := 0, slots := 0, locals := 0 }) (roP G cI cJ [.ref (a 1), .int (nI tr), .int (nI pl), .int (nI mn)] [oTr a, aI cI (a 10) 4 (nF sz)]) (vp_Si (fun r => r = bi (pl + mn ≤ sz tr))) 0 0 (fun _ => False) := by
  refine Met.ofW (cc := cX6_holds) (maxL := 4) (ret := (some .boolean)) (by decide) rfl ?_
  intro pg ev s mt args below meth cd s₁ B hml hv
  obtain ⟨rfl, hP, hK⟩ := hv
  have hx := B.exec
  have hb := B.bytes
  have hr := B.returns
  have hts := atoms_spec (ws := wsX6_holds) B.pre
  have hown : s.vm.findClass RX6 = some mt.cls := findClass_of_methodNamed B.named
  have hlocks := B.notSynchronized
  have hP : va_P G vwCl [oTr a, aI cI (a 10) 4 (nF sz)] s.heap := hP
  have hinX6 := (show ∀ w ∈ u_ws RX6 TX6 3, w ∈ wsX6_holds by decide +kernel)
  have fl19 := hts (.fieldLink RX6 19 "SpotRows$Trays" "sizes" "[I") (by decide +kernel)
  have hl := lv_entry ([.ref (a 1), .int (nI tr), .int (nI pl), .int (nI mn)]) (n := 4) (Nat.le_of_ble_eq_true rfl)
  rw [lg_entry_eq]
  generalize (lg_sl ([.ref (a 1), .int (nI tr), .int (nI pl), .int (nI mn)]) ++ List.replicate (4 - (lg_sl ([.ref (a 1), .int (nI tr), .int (nI pl), .int (nI mn)])).length) Slot.unset).toArray = ls at hl ⊢
  have hl : lv_has ls 4 [(0, .ref (a 1)), (1, .int (nI tr)), (2, .int (nI pl)), (3, .int (nI mn))] := hl
  have h8 := ts tr
  refine lv_iload_n hx hb dX6_holds_0 rfl (lv_at hl 2 rfl) ?_
  refine lv_i2l (v := lN pl) hx hb dX6_holds_1 (nI_l (by omega)) ?_
  refine lv_iload_n hx hb dX6_holds_2 rfl (lv_at hl 3 rfl) ?_
  refine lv_i2l (v := lN mn) hx hb dX6_holds_3 (nI_l (by omega)) ?_
  refine lv_ladd hx hb dX6_holds_4 ?_
  refine tol (lN_add pl mn) ?_
  refine lv_aload_n hx hb dX6_holds_5 rfl (lv_at hl 0 rfl) ?_
  refine va_get (D := G) (own := RX6) (ref := "SpotRows$Trays") (ci := 6) (v := .ref (a 10)) (C := RX6) (T := TX6) (N := 3) hx hb hts hinX6 hown hK.1 hP 0 rfl rfl 2 (by decide) fl19 (fun _ h9 => h9) rfl dX6_holds_6 ?_
  refine lv_iload_n hx hb dX6_holds_9 rfl (lv_at hl 1 rfl) ?_
  refine ld_nF hx hb hK hP 1 (k := tr) rfl (by omega) (by decide) dX6_holds_10 ?_
  refine lv_i2l (v := lN (sz tr)) hx hb dX6_holds_11 (nI_l (by omega)) ?_
  refine nl_if_gt (tgt := 20) hx hb dX6_holds_12 dX6_holds_13 (by decide) (by omega) (by omega) (fun c_13 => ?_) (fun c_13 => ?_)
  · refine lv_iconst (v := nI 0) hx hb dX6_holds_20 (by decide) ?_
    exact W.zret (v := nI 0) hx hb hr rfl (fun zt ht zw => ⟨_, rfl, (show nI 0 = bi (pl + mn ≤ sz tr) from (bi_f (by first | rfl | omega | (simp_all; done))).symm), ht⟩) (fun q hq => absurd hq List.not_mem_nil) dX6_holds_21
  refine lv_iconst (v := nI 1) hx hb dX6_holds_16 (by decide) ?_
  refine lv_goto (tgt := 21) hx hb dX6_holds_17 (by decide) ?_
  exact W.zret (v := nI 1) hx hb hr rfl (fun zt ht zw => ⟨_, rfl, (show nI 1 = bi (pl + mn ≤ sz tr) from (bi_t (by first | rfl | omega | (simp_all; done))).symm), ht⟩) (fun q hq => absurd hq List.not_mem_nil) dX6_holds_21

set_option maxHeartbeats 400000 in
set_option maxRecDepth 100000 in
theorem c_X6_whyNoPlace (l : Launch) (G : va_G) (cI cJ : ClassId) (a : Nat → Nat) (so : Nat → Nat) (sz : Nat → Nat) (tr : Int32) (pl : Int32) (ts : TS so sz) : Met l yX6_whyNoPlace wsX6_whyNoPlace ({ frames := 1, cells := 0, slots := 0, locals := 21 }) (roP G cI cJ [.ref (a 1), .int tr, .int pl] [oTr a, aI cI (a 9) 4 (oF so), aI cI (a 10) 4 (nF sz)]) (vp_Si (fun r => r = nI (wnp so sz tr pl))) 0 0 (fun _ => False) := by
  refine Met.ofW (cc := cX6_whyNoPlace) (maxL := 3) (ret := (some .int)) (by decide) rfl ?_
  intro pg ev s mt args below meth cd s₁ B hml hv
  obtain ⟨rfl, hP, hK⟩ := hv
  have hx := B.exec
  have hb := B.bytes
  have hr := B.returns
  have hts := atoms_spec (ws := wsX6_whyNoPlace) B.pre
  have hown : s.vm.findClass RX6 = some mt.cls := findClass_of_methodNamed B.named
  have hlocks := B.notSynchronized
  have hP : va_P G vwCl [oTr a, aI cI (a 9) 4 (oF so), aI cI (a 10) 4 (nF sz)] s.heap := hP
  have hinX6 := (show ∀ w ∈ u_ws RX6 TX6 3, w ∈ wsX6_whyNoPlace by decide +kernel)
  have fl19 := hts (.fieldLink RX6 19 "SpotRows$Trays" "sizes" "[I") (by decide +kernel)
  have hl := lv_entry ([.ref (a 1), .int tr, .int pl]) (n := 3) (Nat.le_of_ble_eq_true rfl)
  rw [lg_entry_eq]
  generalize (lg_sl ([.ref (a 1), .int tr, .int pl]) ++ List.replicate (3 - (lg_sl ([.ref (a 1), .int tr, .int pl])).length) Slot.unset).toArray = ls at hl ⊢
  have hl : lv_has ls 3 [(0, .ref (a 1)), (1, .int tr), (2, .int pl)] := hl
  refine lv_iload_n hx hb dX6_whyNoPlace_0 rfl (lv_at hl 1 rfl) ?_
  refine lv_iconst (v := nI 3) hx hb dX6_whyNoPlace_1 (by decide) ?_
  refine cro_i (va_runSN (As := [.int tr, .int (nI 3)]) (rest := []) ⟨hx, hb, hml, hown, hts⟩ (c_X7_isWithin l G cI cJ (x := tr) (k := 3) (hk := by first | assumption | omega)) ⟨va_cnB 2 hts gX6_whyNoPlace_X7_isWithin_n28 rfl rfl rfl (hK.2.1 (.methodLinkNest "SpotRows$Trays" 28 yX7_isWithin "SpotRows") (by decide +kernel)) (hts (.initialized yX7_isWithin.cls) (by decide +kernel)) (by decide +kernel) ⟨Nat.le_of_ble_eq_true rfl, Nat.le_of_ble_eq_true rfl⟩, hts (.static yX7_isWithin) (by decide +kernel), trivial⟩ (preS_ro (wc := []) hK hP [] rfl) rfl rfl hl.1 rfl (lv_room (Nat.le_of_ble_eq_true rfl)) dX6_whyNoPlace_2 ⟨Nat.zero_le _, Nat.zero_le _⟩) ?_
  refine nb_if_ne (tgt := 10) hx hb dX6_whyNoPlace_5 (by decide) (fun c_5 => ?_) (fun c_5 => ?_)
  · obtain ⟨j_tr, h_tr, rfl⟩ := rg_ex c_5
    have e_tr := nn_nI (j := j_tr) (by omega)
    have h8 := ts j_tr
    refine lv_aload_n hx hb dX6_whyNoPlace_10 rfl (lv_at hl 0 rfl) ?_
    refine lv_iload_n hx hb dX6_whyNoPlace_11 rfl (lv_at hl 1 rfl) ?_
    refine cro_i (va_runV (As := [.int (nI j_tr)]) (rest := []) ⟨hx, hb, hml, hown, hts⟩ (c_X6_isMissing l G cI cJ (a := a) (so := so) (sz := sz) (tr := j_tr) (ts := by first | assumption | omega) (h1 := by first | assumption | omega)) (cwV 1 hts gX6_whyNoPlace_X6_isMissing rfl rfl rfl (by decide +kernel) ⟨Nat.le_of_ble_eq_true rfl, Nat.le_of_ble_eq_true rfl⟩) (preV_ro (wc := [oTr a, aI cI (a 9) 4 (oF so)]) hK hP [0, 1] rfl 6 0 rfl rfl rfl) rfl rfl hl.1 rfl (lv_room (Nat.le_of_ble_eq_true rfl)) dX6_whyNoPlace_12 ⟨Nat.zero_le _, Nat.zero_le _⟩) ?_
    refine nb_if_eq (tgt := 20) hx hb dX6_whyNoPlace_15 (by decide) (fun c_15 => ?_) (fun c_15 => ?_)
    · refine lv_iload_n hx hb dX6_whyNoPlace_20 rfl (lv_at hl 2 rfl) ?_
      refine lv_if_lt (tgt := 38) hx hb dX6_whyNoPlace_21 (by decide) (fun c_21 => ?_) (fun c_21 => ?_)
      · refine lv_iconst (v := nI 3) hx hb dX6_whyNoPlace_38 (by decide) ?_
        exact W.iret (v := nI 3) hx hb hr (fun zt ht zw => ⟨_, rfl, (congrArg nI (show 3 = wnp so sz (nI j_tr) pl from by unfold wnp; rw [cif_pos c_5, e_tr, if_neg c_15]; first | rw [cif_neg (nrg_lt c_21)] | rw [cif_neg (nrg_ge c_31 (by omega))] | rw [cif_pos (rg_of c_21 c_31 (by omega))])), ht⟩) (fun q hq => absurd hq List.not_mem_nil) dX6_whyNoPlace_39
      refine lv_iload_n hx hb dX6_whyNoPlace_24 rfl (lv_at hl 2 rfl) ?_
      refine lv_aload_n hx hb dX6_whyNoPlace_25 rfl (lv_at hl 0 rfl) ?_
      refine va_get (D := G) (own := RX6) (ref := "SpotRows$Trays") (ci := 6) (v := .ref (a 10)) (C := RX6) (T := TX6) (N := 3) hx hb hts hinX6 hown hK.1 hP 0 rfl rfl 2 (by decide) fl19 (fun _ h9 => h9) rfl dX6_whyNoPlace_26 ?_
      refine lv_iload_n hx hb dX6_whyNoPlace_29 rfl (lv_at hl 1 rfl) ?_
      refine ld_nF hx hb hK hP 2 (k := j_tr) rfl (by omega) (by decide) dX6_whyNoPlace_30 ?_
      refine lv_icmp_ge (tgt := 38) hx hb dX6_whyNoPlace_31 (by decide) (fun c_31 => ?_) (fun c_31 => ?_)
      · refine lv_iconst (v := nI 3) hx hb dX6_whyNoPlace_38 (by decide) ?_
        exact W.iret (v := nI 3) hx hb hr (fun zt ht zw => ⟨_, rfl, (congrArg nI (show 3 = wnp so sz (nI j_tr) pl from by unfold wnp; rw [cif_pos c_5, e_tr, if_neg c_15]; first | rw [cif_neg (nrg_lt c_21)] | rw [cif_neg (nrg_ge c_31 (by omega))] | rw [cif_pos (rg_of c_21 c_31 (by omega))])), ht⟩) (fun q hq => absurd hq List.not_mem_nil) dX6_whyNoPlace_39
      refine lv_iconst (v := nI 0) hx hb dX6_whyNoPlace_34 (by decide) ?_
      refine lv_goto (tgt := 39) hx hb dX6_whyNoPlace_35 (by decide) ?_
      exact W.iret (v := nI 0) hx hb hr (fun zt ht zw => ⟨_, rfl, (congrArg nI (show 0 = wnp so sz (nI j_tr) pl from by unfold wnp; rw [cif_pos c_5, e_tr, if_neg c_15]; first | rw [cif_neg (nrg_lt c_21)] | rw [cif_neg (nrg_ge c_31 (by omega))] | rw [cif_pos (rg_of c_21 c_31 (by omega))])), ht⟩) (fun q hq => absurd hq List.not_mem_nil) dX6_whyNoPlace_39
    refine lv_iconst (v := nI 2) hx hb dX6_whyNoPlace_18 (by decide) ?_
    exact W.iret (v := nI 2) hx hb hr (fun zt ht zw => ⟨_, rfl, (congrArg nI (show 2 = wnp so sz (nI j_tr) pl from by unfold wnp; rw [cif_pos c_5, e_tr, if_pos c_15])), ht⟩) (fun q hq => absurd hq List.not_mem_nil) dX6_whyNoPlace_19
  refine lv_iconst (v := nI 1) hx hb dX6_whyNoPlace_8 (by decide) ?_
  exact W.iret (v := nI 1) hx hb hr (fun zt ht zw => ⟨_, rfl, (congrArg nI (show 1 = wnp so sz tr pl from by unfold wnp; rw [cif_neg c_5])), ht⟩) (fun q hq => absurd hq List.not_mem_nil) dX6_whyNoPlace_9

set_option maxHeartbeats 400000 in
set_option maxRecDepth 100000 in
theorem c_X6_lay (l : Launch) (G : va_G) (cI cJ : ClassId) (a : Nat → Nat) (so : Nat → Nat) (sz : Nat → Nat) (z : Nat → Int64) (tr : Nat) (k : Nat) (mn : Nat) (h1 : tr < 4) : Met l yX6_lay wsX6_lay ({ frames := 3, cells := 0, slots := 0, locals := 107 }) (rwP G cI cJ [.ref (a 1), .int (nI tr), .int (nI k), .int (nI mn)] [oTr a, aI cI (a 9) 4 (oF so), aI cI (a 10) 4 (nF sz), aJ cJ (a 8) 240 z]) (rwQv G [oTr a, aI cI (a 9) 4 (oF so), aI cI (a 10) 4 (nF sz), aJ cJ (a 8) 240 z] (fun (_ : Unit) => True) (fun (_ : Unit) => [oTr a, aI cI (a 9) 4 (oF (upN so tr (k + 1))), aI cI (a 10) 4 (nF (upN sz tr mn)), aJ cJ (a 8) 240 (fil z (lN 0) (tr * 60) ((tr + 1) * 60))])) 0 0 (ads [oTr a, aI cI (a 9) 4 (oF so), aI cI (a 10) 4 (nF sz), aJ cJ (a 8) 240 z]) := by
  refine Met.ofW (cc := cX6_lay) (maxL := 4) (ret := none) (by decide) rfl ?_
  intro pg ev s mt args below meth cd s₁ B hml hv
  obtain ⟨rfl, hP, hD0, hK⟩ := hv
  have hx := B.exec
  have hb := B.bytes
  have hr := B.returns
  have hts := atoms_spec (ws := wsX6_lay) B.pre
  have hown : s.vm.findClass RX6 = some mt.cls := findClass_of_methodNamed B.named
  have hlocks := B.notSynchronized
  have hD := ads_self hD0
  generalize hAe : ads [oTr a, aI cI (a 9) 4 (oF so), aI cI (a 10) 4 (nF sz), aJ cJ (a 8) 240 z] = A at hD ⊢
  have hS : va_S A s.heap s.heap [] := va_S.rf
  have hP : va_P G vwCl [oTr a, aI cI (a 9) 4 (oF so), aI cI (a 10) 4 (nF sz), aJ cJ (a 8) 240 z] s.heap := hP
  have hinX6 := (show ∀ w ∈ u_ws RX6 TX6 3, w ∈ wsX6_lay by decide +kernel)
  have fl15 := hts (.fieldLink RX6 15 "SpotRows$Trays" "sorts" "[I") (by decide +kernel)
  have fl19 := hts (.fieldLink RX6 19 "SpotRows$Trays" "sizes" "[I") (by decide +kernel)
  have fl9 := hts (.fieldLink RX6 9 "SpotRows$Trays" "cells" "[J") (by decide +kernel)
  have hl := lv_entry ([.ref (a 1), .int (nI tr), .int (nI k), .int (nI mn)]) (n := 4) (Nat.le_of_ble_eq_true rfl)
  rw [lg_entry_eq]
  generalize (lg_sl ([.ref (a 1), .int (nI tr), .int (nI k), .int (nI mn)]) ++ List.replicate (4 - (lg_sl ([.ref (a 1), .int (nI tr), .int (nI k), .int (nI mn)])).length) Slot.unset).toArray = ls at hl ⊢
  have hl : lv_has ls 4 [(0, .ref (a 1)), (1, .int (nI tr)), (2, .int (nI k)), (3, .int (nI mn))] := hl
  refine lv_aload_n hx hb dX6_lay_0 rfl (lv_at hl 0 rfl) ?_
  refine va_get (D := G) (own := RX6) (ref := "SpotRows$Trays") (ci := 6) (v := .ref (a 9)) (C := RX6) (T := TX6) (N := 3) hx hb hts hinX6 hown hK.1 hP 0 rfl rfl 1 (by decide) fl15 (fun _ h9 => h9) rfl dX6_lay_1 ?_
  refine lv_iload_n hx hb dX6_lay_4 rfl (lv_at hl 1 rfl) ?_
  refine lv_iload_n hx hb dX6_lay_5 rfl (lv_at hl 2 rfl) ?_
  refine toi (nI_o k) ?_
  refine st_oF hx hb hK hP hD hS 1 (k := tr) rfl (by omega) (by decide) dX6_lay_6 (fun H locs hP hD hS => ?_)
  have hP : va_P G vwCl [oTr a, aI cI (a 9) 4 (oF (upN so tr (k + 1))), aI cI (a 10) 4 (nF sz), aJ cJ (a 8) 240 z] H := hP
  have hD : va_D A [oTr a, aI cI (a 9) 4 (oF (upN so tr (k + 1))), aI cI (a 10) 4 (nF sz), aJ cJ (a 8) 240 z] := hD
  refine lv_aload_n hx hb dX6_lay_7 rfl (lv_at hl 0 rfl) ?_
  refine va_get (D := G) (own := RX6) (ref := "SpotRows$Trays") (ci := 6) (v := .ref (a 10)) (C := RX6) (T := TX6) (N := 3) hx hb hts hinX6 hown hK.1 hP 0 rfl rfl 2 (by decide) fl19 (fun _ h9 => h9) rfl dX6_lay_8 ?_
  refine lv_iload_n hx hb dX6_lay_11 rfl (lv_at hl 1 rfl) ?_
  refine lv_iload_n hx hb dX6_lay_12 rfl (lv_at hl 3 rfl) ?_
  refine st_nF hx hb hK hP hD hS 2 (k := tr) rfl (by omega) (by decide) dX6_lay_13 (fun H locs hP hD hS => ?_)
  have hP : va_P G vwCl [oTr a, aI cI (a 9) 4 (oF (upN so tr (k + 1))), aI cI (a 10) 4 (nF (upN sz tr mn)), aJ cJ (a 8) 240 z] H := hP
  have hD : va_D A [oTr a, aI cI (a 9) 4 (oF (upN so tr (k + 1))), aI cI (a 10) 4 (nF (upN sz tr mn)), aJ cJ (a 8) 240 z] := hD
  refine lv_aload_n hx hb dX6_lay_14 rfl (lv_at hl 0 rfl) ?_
  refine va_get (D := G) (own := RX6) (ref := "SpotRows$Trays") (ci := 6) (v := .ref (a 8)) (C := RX6) (T := TX6) (N := 3) hx hb hts hinX6 hown hK.1 hP 0 rfl rfl 0 (by decide) fl9 (fun _ h9 => h9) rfl dX6_lay_15 ?_
  refine lv_iload_n hx hb dX6_lay_18 rfl (lv_at hl 1 rfl) ?_
  refine lv_bipush (v := nI 60) hx hb dX6_lay_19 (by decide) ?_
  refine lv_imul hx hb dX6_lay_21 ?_
  refine toi (pk_mul tr 60) ?_
  refine lv_iload_n hx hb dX6_lay_22 rfl (lv_at hl 1 rfl) ?_
  refine lv_iconst (v := nI 1) hx hb dX6_lay_23 (by decide) ?_
  refine lv_iadd hx hb dX6_lay_24 ?_
  refine toi (nI_add tr 1) ?_
  refine lv_bipush (v := nI 60) hx hb dX6_lay_25 (by decide) ?_
  refine lv_imul hx hb dX6_lay_27 ?_
  refine toi (pk_mul (tr + 1) 60) ?_
  refine lv_lconst (v := lN 0) hx hb dX6_lay_28 (by decide) ?_
  refine crw_v (free := fun _ => True) (va_runS (As := [.ref (a 8), .int (nI (tr * 60)), .int (nI ((tr + 1) * 60)), .long (lN 0)]) (rest := []) ⟨hx, hb, hml, hown, hts⟩ (c_J7_fill_bad5a l G cI cJ (q := a 8) (n := 240) (f := z) (lo := tr * 60) (hi := (tr + 1) * 60) (v := lN 0) (h1 := by first | assumption | omega) (h2 := by first | assumption | omega) (h3 := by first | assumption | omega)) (va_cwS 4 hts gX6_lay_J7_fill_bad5a rfl rfl rfl (by decide +kernel) ⟨Nat.le_of_ble_eq_true rfl, Nat.le_of_ble_eq_true rfl⟩) (preS_rw (wc := [aJ cJ ((a 8)) 240 z]) hK hP hD [3] rfl rfl) rfl rfl hl.1 rfl (lv_room (Nat.le_of_ble_eq_true rfl)) dX6_lay_29 ⟨Nat.zero_le _, Nat.zero_le _⟩) hP hD hS [3] rfl [a 8] (fun u => rfl) rfl (fun u_ H locs hw_29 hP hD hS => ?_)
  have hP : va_P G vwCl [oTr a, aI cI (a 9) 4 (oF (upN so tr (k + 1))), aI cI (a 10) 4 (nF (upN sz tr mn)), aJ cJ (a 8) 240 (fil z (lN 0) (tr * 60) ((tr + 1) * 60))] H := hP
  have hD : va_D A [oTr a, aI cI (a 9) 4 (oF (upN so tr (k + 1))), aI cI (a 10) 4 (nF (upN sz tr mn)), aJ cJ (a 8) 240 (fil z (lN 0) (tr * 60) ((tr + 1) * 60))] := hD
  exact W.vret hx hb hr (fun zt ht zw => ⟨⟨(), rfl, trivial, by show va_P _ _ _ zt.heap; rw [ht]; exact hP⟩, by rw [hAe]; exact hS.F ht⟩) hS.2.2 dX6_lay_32

set_option maxHeartbeats 400000 in
set_option maxRecDepth 100000 in
theorem c_X6_numberAt (l : Launch) (G : va_G) (cI cJ : ClassId) (a : Nat → Nat) (z : Nat → Int64) (tr : Nat) (pl : Nat) (h1 : tr < 4) (h2 : pl < 60) : Met l yX6_numberAt wsX6_numberAt ({ frames := 0, cells := 0, slots := 0, locals := 0 }) (roP G cI cJ [.ref (a 1), .int (nI tr), .int (nI pl)] [oTr a, aJ cJ (a 8) 240 z]) (vp_Sl (fun r => r = z (tr * 60 + pl))) 0 0 (fun _ => False) := by
  refine Met.ofW (cc := cX6_numberAt) (maxL := 3) (ret := (some .long)) (by decide) rfl ?_
  intro pg ev s mt args below meth cd s₁ B hml hv
  obtain ⟨rfl, hP, hK⟩ := hv
  have hx := B.exec
  have hb := B.bytes
  have hr := B.returns
  have hts := atoms_spec (ws := wsX6_numberAt) B.pre
  have hown : s.vm.findClass RX6 = some mt.cls := findClass_of_methodNamed B.named
  have hlocks := B.notSynchronized
  have hP : va_P G vwCl [oTr a, aJ cJ (a 8) 240 z] s.heap := hP
  have hinX6 := (show ∀ w ∈ u_ws RX6 TX6 3, w ∈ wsX6_numberAt by decide +kernel)
  have fl9 := hts (.fieldLink RX6 9 "SpotRows$Trays" "cells" "[J") (by decide +kernel)
  have hl := lv_entry ([.ref (a 1), .int (nI tr), .int (nI pl)]) (n := 3) (Nat.le_of_ble_eq_true rfl)
  rw [lg_entry_eq]
  generalize (lg_sl ([.ref (a 1), .int (nI tr), .int (nI pl)]) ++ List.replicate (3 - (lg_sl ([.ref (a 1), .int (nI tr), .int (nI pl)])).length) Slot.unset).toArray = ls at hl ⊢
  have hl : lv_has ls 3 [(0, .ref (a 1)), (1, .int (nI tr)), (2, .int (nI pl))] := hl
  refine lv_aload_n hx hb dX6_numberAt_0 rfl (lv_at hl 0 rfl) ?_
  refine va_get (D := G) (own := RX6) (ref := "SpotRows$Trays") (ci := 6) (v := .ref (a 8)) (C := RX6) (T := TX6) (N := 3) hx hb hts hinX6 hown hK.1 hP 0 rfl rfl 0 (by decide) fl9 (fun _ h9 => h9) rfl dX6_numberAt_1 ?_
  refine lv_iload_n hx hb dX6_numberAt_4 rfl (lv_at hl 1 rfl) ?_
  refine lv_bipush (v := nI 60) hx hb dX6_numberAt_5 (by decide) ?_
  refine lv_imul hx hb dX6_numberAt_7 ?_
  refine toi (pk_mul tr 60) ?_
  refine lv_iload_n hx hb dX6_numberAt_8 rfl (lv_at hl 2 rfl) ?_
  refine lv_iadd hx hb dX6_numberAt_9 ?_
  refine toi (nI_add (tr * 60) pl) ?_
  refine ld_J hx hb hK hP 1 (k := tr * 60 + pl) rfl (by omega) (by decide) dX6_numberAt_10 ?_
  exact W.lret (v := z (tr * 60 + pl)) hx hb hr (fun zt ht zw => ⟨_, rfl, rfl, ht⟩) (fun q hq => absurd hq List.not_mem_nil) dX6_numberAt_11

set_option maxHeartbeats 400000 in
set_option maxRecDepth 100000 in
theorem c_X6_cut (l : Launch) (G : va_G) (cI cJ : ClassId) (k : Nat) (v : Int64) (h1 : k ≤ 3) : Met l yX6_cut wsX6_cut ({ frames := 0, cells := 0, slots := 0, locals := 0 }) (roP G cI cJ [.int (nI k), .long v] []) (vp_Sl (fun r => r = cutF k v)) 0 0 (fun _ => False) := by
  refine Met.ofW (cc := cX6_cut) (maxL := 3) (ret := (some .long)) (by decide) rfl ?_
  intro pg ev s mt args below meth cd s₁ B hml hv
  obtain ⟨rfl, hP, hK⟩ := hv
  have hx := B.exec
  have hb := B.bytes
  have hr := B.returns
  have hts := atoms_spec (ws := wsX6_cut) B.pre
  have hown : s.vm.findClass RX6 = some mt.cls := findClass_of_methodNamed B.named
  have hlocks := B.notSynchronized
  have hP : va_P G vwCl [] s.heap := hP
  have hl := lv_entry ([.int (nI k), .long v]) (n := 3) (Nat.le_of_ble_eq_true rfl)
  rw [lg_entry_eq]
  generalize (lg_sl ([.int (nI k), .long v]) ++ List.replicate (3 - (lg_sl ([.int (nI k), .long v])).length) Slot.unset).toArray = ls at hl ⊢
  have hl : lv_has ls 3 [(0, .int (nI k)), (1, .long v)] := hl
  refine lv_iload_n hx hb dX6_cut_0 rfl (lv_at hl 0 rfl) ?_
  rcases (show k = 0 ∨ k = 1 ∨ k = 2 ∨ k = 3 by omega) with rfl | rfl | rfl | rfl
  · refine lv_tableIn (tgt := 28) hx hb dX6_cut_1 (by decide) (by decide) rfl (by decide) ?_
    refine lv_lload_n hx hb dX6_cut_28 rfl (lv_at hl 1 rfl) ?_
    refine lv_l2i (v := v.toInt32) hx hb dX6_cut_29 rfl ?_
    refine lv_i2b (v := v.toInt32.toInt8.toInt32) hx hb dX6_cut_30 rfl ?_
    refine lv_i2l (v := v.toInt32.toInt8.toInt32.toInt64) hx hb dX6_cut_31 rfl ?_
    exact W.lret (v := v.toInt32.toInt8.toInt32.toInt64) hx hb hr (fun zt ht zw => ⟨_, rfl, (show v.toInt32.toInt8.toInt32.toInt64 = cutF 0 v from by rfl), ht⟩) (fun q hq => absurd hq List.not_mem_nil) dX6_cut_32
  · refine lv_tableIn (tgt := 33) hx hb dX6_cut_1 (by decide) (by decide) rfl (by decide) ?_
    refine lv_lload_n hx hb dX6_cut_33 rfl (lv_at hl 1 rfl) ?_
    refine lv_l2i (v := v.toInt32) hx hb dX6_cut_34 rfl ?_
    refine lv_i2s (v := v.toInt32.toInt16.toInt32) hx hb dX6_cut_35 rfl ?_
    refine lv_i2l (v := v.toInt32.toInt16.toInt32.toInt64) hx hb dX6_cut_36 rfl ?_
    exact W.lret (v := v.toInt32.toInt16.toInt32.toInt64) hx hb hr (fun zt ht zw => ⟨_, rfl, (show v.toInt32.toInt16.toInt32.toInt64 = cutF 1 v from by rfl), ht⟩) (fun q hq => absurd hq List.not_mem_nil) dX6_cut_37
  · refine lv_tableIn (tgt := 38) hx hb dX6_cut_1 (by decide) (by decide) rfl (by decide) ?_
    refine lv_lload_n hx hb dX6_cut_38 rfl (lv_at hl 1 rfl) ?_
    refine lv_l2i (v := v.toInt32) hx hb dX6_cut_39 rfl ?_
    refine lv_i2l (v := v.toInt32.toInt64) hx hb dX6_cut_40 rfl ?_
    exact W.lret (v := v.toInt32.toInt64) hx hb hr (fun zt ht zw => ⟨_, rfl, (show v.toInt32.toInt64 = cutF 2 v from by rfl), ht⟩) (fun q hq => absurd hq List.not_mem_nil) dX6_cut_41
  · refine lv_tableOut (tgt := 42) hx hb dX6_cut_1 (by decide) (by decide) ?_
    refine lv_lload_n hx hb dX6_cut_42 rfl (lv_at hl 1 rfl) ?_
    exact W.lret (v := v) hx hb hr (fun zt ht zw => ⟨_, rfl, (show v = cutF 3 v from by rfl), ht⟩) (fun q hq => absurd hq List.not_mem_nil) dX6_cut_43

set_option maxHeartbeats 400000 in
set_option maxRecDepth 100000 in
theorem c_X6_put (l : Launch) (G : va_G) (cI cJ : ClassId) (a : Nat → Nat) (so : Nat → Nat) (sz : Nat → Nat) (z : Nat → Int64) (tr : Nat) (pl : Nat) (v : Int64) (ts : TS so sz) (h1 : tr < 4) (h2 : pl < 60) (h3 : so tr ≠ 0) : Met l yX6_put wsX6_put ({ frames := 1, cells := 0, slots := 0, locals := 22 }) (rwP G cI cJ [.ref (a 1), .int (nI tr), .int (nI pl), .long v] [oTr a, aI cI (a 9) 4 (oF so), aJ cJ (a 8) 240 z]) (rwQv G [oTr a, aI cI (a 9) 4 (oF so), aJ cJ (a 8) 240 z] (fun (_ : Unit) => True) (fun (_ : Unit) => [oTr a, aI cI (a 9) 4 (oF so), aJ cJ (a 8) 240 (upN z (tr * 60 + pl) (cutF (so tr - 1) v))])) 0 0 (ads [oTr a, aI cI (a 9) 4 (oF so), aJ cJ (a 8) 240 z]) := by
  refine Met.ofW (cc := cX6_put) (maxL := 5) (ret := none) (by decide) rfl ?_
  intro pg ev s mt args below meth cd s₁ B hml hv
  obtain ⟨rfl, hP, hD0, hK⟩ := hv
  have hx := B.exec
  have hb := B.bytes
  have hr := B.returns
  have hts := atoms_spec (ws := wsX6_put) B.pre
  have hown : s.vm.findClass RX6 = some mt.cls := findClass_of_methodNamed B.named
  have hlocks := B.notSynchronized
  have hD := ads_self hD0
  generalize hAe : ads [oTr a, aI cI (a 9) 4 (oF so), aJ cJ (a 8) 240 z] = A at hD ⊢
  have hS : va_S A s.heap s.heap [] := va_S.rf
  have hP : va_P G vwCl [oTr a, aI cI (a 9) 4 (oF so), aJ cJ (a 8) 240 z] s.heap := hP
  have hinX6 := (show ∀ w ∈ u_ws RX6 TX6 3, w ∈ wsX6_put by decide +kernel)
  have fl9 := hts (.fieldLink RX6 9 "SpotRows$Trays" "cells" "[J") (by decide +kernel)
  have fl15 := hts (.fieldLink RX6 15 "SpotRows$Trays" "sorts" "[I") (by decide +kernel)
  have hl := lv_entry ([.ref (a 1), .int (nI tr), .int (nI pl), .long v]) (n := 5) (Nat.le_of_ble_eq_true rfl)
  rw [lg_entry_eq]
  generalize (lg_sl ([.ref (a 1), .int (nI tr), .int (nI pl), .long v]) ++ List.replicate (5 - (lg_sl ([.ref (a 1), .int (nI tr), .int (nI pl), .long v])).length) Slot.unset).toArray = ls at hl ⊢
  have hl : lv_has ls 5 [(0, .ref (a 1)), (1, .int (nI tr)), (2, .int (nI pl)), (3, .long v)] := hl
  have h8 := ts tr
  refine lv_aload_n hx hb dX6_put_0 rfl (lv_at hl 0 rfl) ?_
  refine va_get (D := G) (own := RX6) (ref := "SpotRows$Trays") (ci := 6) (v := .ref (a 8)) (C := RX6) (T := TX6) (N := 3) hx hb hts hinX6 hown hK.1 hP 0 rfl rfl 0 (by decide) fl9 (fun _ h9 => h9) rfl dX6_put_1 ?_
  refine lv_iload_n hx hb dX6_put_4 rfl (lv_at hl 1 rfl) ?_
  refine lv_bipush (v := nI 60) hx hb dX6_put_5 (by decide) ?_
  refine lv_imul hx hb dX6_put_7 ?_
  refine toi (pk_mul tr 60) ?_
  refine lv_iload_n hx hb dX6_put_8 rfl (lv_at hl 2 rfl) ?_
  refine lv_iadd hx hb dX6_put_9 ?_
  refine toi (nI_add (tr * 60) pl) ?_
  refine lv_aload_n hx hb dX6_put_10 rfl (lv_at hl 0 rfl) ?_
  refine va_get (D := G) (own := RX6) (ref := "SpotRows$Trays") (ci := 6) (v := .ref (a 9)) (C := RX6) (T := TX6) (N := 3) hx hb hts hinX6 hown hK.1 hP 0 rfl rfl 1 (by decide) fl15 (fun _ h9 => h9) rfl dX6_put_11 ?_
  refine lv_iload_n hx hb dX6_put_14 rfl (lv_at hl 1 rfl) ?_
  refine ld_oF hx hb hK hP 1 (k := tr) rfl (by omega) (by decide) dX6_put_15 ?_
  refine toi (oI_pos (by first | assumption | omega)) ?_
  refine lv_lload_n hx hb dX6_put_16 rfl (lv_at hl 3 rfl) ?_
  refine cro_l (va_runS (As := [.int (nI (so tr - 1)), .long v]) (rest := [.int (nI (tr * 60 + pl)), .ref (a 8)]) ⟨hx, hb, hml, hown, hts⟩ (c_X6_cut l G cI cJ (k := so tr - 1) (v := v) (h1 := by first | assumption | omega)) (va_cwS 2 hts gX6_put_X6_cut rfl rfl rfl (by decide +kernel) ⟨Nat.le_of_ble_eq_true rfl, Nat.le_of_ble_eq_true rfl⟩) (preS_ro (wc := []) hK hP [] rfl) rfl rfl hl.1 rfl (lv_room (Nat.le_of_ble_eq_true rfl)) dX6_put_17 ⟨Nat.zero_le _, Nat.zero_le _⟩) ?_
  refine st_J hx hb hK hP hD hS 2 (k := tr * 60 + pl) rfl (by omega) (by decide) dX6_put_20 (fun H locs hP hD hS => ?_)
  have hP : va_P G vwCl [oTr a, aI cI (a 9) 4 (oF so), aJ cJ (a 8) 240 (upN z (tr * 60 + pl) (cutF (so tr - 1) v))] H := hP
  have hD : va_D A [oTr a, aI cI (a 9) 4 (oF so), aJ cJ (a 8) 240 (upN z (tr * 60 + pl) (cutF (so tr - 1) v))] := hD
  exact W.vret hx hb hr (fun zt ht zw => ⟨⟨(), rfl, trivial, by show va_P _ _ _ zt.heap; rw [ht]; exact hP⟩, by rw [hAe]; exact hS.F ht⟩) hS.2.2 dX6_put_21

set_option maxHeartbeats 400000 in
set_option maxRecDepth 100000 in
theorem c_X6_carry (l : Launch) (G : va_G) (cI cJ : ClassId) (a : Nat → Nat) (z : Nat → Int64) (fr : Nat) (pl : Nat) (to : Nat) (at_ : Nat) (mn : Nat) (h1 : fr < 4) (h2 : to < 4) (h3 : pl + mn ≤ 60) (h4 : at_ + mn ≤ 60) : Met l yX6_carry wsX6_carry ({ frames := 1, cells := 0, slots := 0, locals := 60 }) (rwP G cI cJ [.ref (a 1), .int (nI fr), .int (nI pl), .int (nI to), .int (nI at_), .int (nI mn)] [oTr a, aJ cJ (a 8) 240 z]) (rwQv G [oTr a, aJ cJ (a 8) 240 z] (fun (_ : Unit) => True) (fun (_ : Unit) => [oTr a, aJ cJ (a 8) 240 (va_cpy z z (fr * 60 + pl) (to * 60 + at_) mn)])) 0 0 (ads [oTr a, aJ cJ (a 8) 240 z]) := by
  refine Met.ofW (cc := cX6_carry) (maxL := 6) (ret := none) (by decide) rfl ?_
  intro pg ev s mt args below meth cd s₁ B hml hv
  obtain ⟨rfl, hP, hD0, hK⟩ := hv
  have hx := B.exec
  have hb := B.bytes
  have hr := B.returns
  have hts := atoms_spec (ws := wsX6_carry) B.pre
  have hown : s.vm.findClass RX6 = some mt.cls := findClass_of_methodNamed B.named
  have hlocks := B.notSynchronized
  have hD := ads_self hD0
  generalize hAe : ads [oTr a, aJ cJ (a 8) 240 z] = A at hD ⊢
  have hS : va_S A s.heap s.heap [] := va_S.rf
  have hP : va_P G vwCl [oTr a, aJ cJ (a 8) 240 z] s.heap := hP
  have hinX6 := (show ∀ w ∈ u_ws RX6 TX6 3, w ∈ wsX6_carry by decide +kernel)
  have fl9 := hts (.fieldLink RX6 9 "SpotRows$Trays" "cells" "[J") (by decide +kernel)
  have hl := lv_entry ([.ref (a 1), .int (nI fr), .int (nI pl), .int (nI to), .int (nI at_), .int (nI mn)]) (n := 6) (Nat.le_of_ble_eq_true rfl)
  rw [lg_entry_eq]
  generalize (lg_sl ([.ref (a 1), .int (nI fr), .int (nI pl), .int (nI to), .int (nI at_), .int (nI mn)]) ++ List.replicate (6 - (lg_sl ([.ref (a 1), .int (nI fr), .int (nI pl), .int (nI to), .int (nI at_), .int (nI mn)])).length) Slot.unset).toArray = ls at hl ⊢
  have hl : lv_has ls 6 [(0, .ref (a 1)), (1, .int (nI fr)), (2, .int (nI pl)), (3, .int (nI to)), (4, .int (nI at_)), (5, .int (nI mn))] := hl
  refine lv_aload_n hx hb dX6_carry_0 rfl (lv_at hl 0 rfl) ?_
  refine va_get (D := G) (own := RX6) (ref := "SpotRows$Trays") (ci := 6) (v := .ref (a 8)) (C := RX6) (T := TX6) (N := 3) hx hb hts hinX6 hown hK.1 hP 0 rfl rfl 0 (by decide) fl9 (fun _ h9 => h9) rfl dX6_carry_1 ?_
  refine lv_iload_n hx hb dX6_carry_4 rfl (lv_at hl 1 rfl) ?_
  refine lv_bipush (v := nI 60) hx hb dX6_carry_5 (by decide) ?_
  refine lv_imul hx hb dX6_carry_7 ?_
  refine toi (pk_mul fr 60) ?_
  refine lv_iload_n hx hb dX6_carry_8 rfl (lv_at hl 2 rfl) ?_
  refine lv_iadd hx hb dX6_carry_9 ?_
  refine toi (nI_add (fr * 60) pl) ?_
  refine lv_aload_n hx hb dX6_carry_10 rfl (lv_at hl 0 rfl) ?_
  refine va_get (D := G) (own := RX6) (ref := "SpotRows$Trays") (ci := 6) (v := .ref (a 8)) (C := RX6) (T := TX6) (N := 3) hx hb hts hinX6 hown hK.1 hP 0 rfl rfl 0 (by decide) fl9 (fun _ h9 => h9) rfl dX6_carry_11 ?_
  refine lv_iload_n hx hb dX6_carry_14 rfl (lv_at hl 3 rfl) ?_
  refine lv_bipush (v := nI 60) hx hb dX6_carry_15 (by decide) ?_
  refine lv_imul hx hb dX6_carry_17 ?_
  refine toi (pk_mul to 60) ?_
  refine lv_iload hx hb dX6_carry_18 (lv_at hl 4 rfl) ?_
  refine lv_iadd hx hb dX6_carry_20 ?_
  refine toi (nI_add (to * 60) at_) ?_
  refine lv_iload hx hb dX6_carry_21 (lv_at hl 5 rfl) ?_
  refine cp_J hx hb (hml.trans hl.1.symm) (own := RX6) hown (hts (.methodLink RX6 43 arraycopyName) (by decide +kernel)) (hts (.native arraycopyName) (by decide +kernel)) (hts (.static arraycopyName) (by decide +kernel)) (hts (.initialized "java/lang/System") (by decide +kernel)) hK hP hD hS 1 (sp := fr * 60 + pl) (dp := to * 60 + at_) (n := mn) rfl (by omega) (by omega) (by decide) (Nat.le_of_ble_eq_true rfl) (Nat.le_of_ble_eq_true rfl) dX6_carry_23 (fun H locs hP hD hS => ?_)
  have hP : va_P G vwCl [oTr a, aJ cJ (a 8) 240 (va_cpy z z (fr * 60 + pl) (to * 60 + at_) mn)] H := hP
  have hD : va_D A [oTr a, aJ cJ (a 8) 240 (va_cpy z z (fr * 60 + pl) (to * 60 + at_) mn)] := hD
  exact W.vret hx hb hr (fun zt ht zw => ⟨⟨(), rfl, trivial, by show va_P _ _ _ zt.heap; rw [ht]; exact hP⟩, by rw [hAe]; exact hS.F ht⟩) hS.2.2 dX6_carry_26

set_option maxHeartbeats 400000 in
set_option maxRecDepth 100000 in
theorem c_X1_commonDivisor (l : Launch) (G : va_G) (cI cJ : ClassId) (x : Nat) (y : Nat) (h1 : x < 2 ^ 31) (h2 : y < 2 ^ 31) : Met l yX1_commonDivisor wsX1_commonDivisor ({ frames := 0, cells := 0, slots := 0, locals := 0 }) (roP G cI cJ [.int (nI x), .int (nI y)] []) (vp_Si (fun r => r = nI (Nat.gcd x y))) 0 0 (fun _ => False) := by
  refine Met.ofW (cc := cX1_commonDivisor) (maxL := 6) (ret := (some .int)) (by decide) rfl ?_
  intro pg ev s mt args below meth cd s₁ B hml hv
  obtain ⟨rfl, hP, hK⟩ := hv
  have hx := B.exec
  have hb := B.bytes
  have hr := B.returns
  have hts := atoms_spec (ws := wsX1_commonDivisor) B.pre
  have hown : s.vm.findClass RX1 = some mt.cls := findClass_of_methodNamed B.named
  have hlocks := B.notSynchronized
  have hP : va_P G vwCl [] s.heap := hP
  have hl := lv_entry ([.int (nI x), .int (nI y)]) (n := 6) (Nat.le_of_ble_eq_true rfl)
  rw [lg_entry_eq]
  generalize (lg_sl ([.int (nI x), .int (nI y)]) ++ List.replicate (6 - (lg_sl ([.int (nI x), .int (nI y)])).length) Slot.unset).toArray = ls at hl ⊢
  have hl : lv_has ls 6 [(0, .int (nI x)), (1, .int (nI y))] := hl
  refine lv_iload_n hx hb dX1_commonDivisor_0 rfl (lv_at hl 0 rfl) ?_
  refine lv_istore_n (lv' := [(2, .int (nI x)), (0, .int (nI x)), (1, .int (nI y))]) hx hb dX1_commonDivisor_1 rfl hl (by decide) rfl (fun ls hl => ?_)
  refine lv_iload_n hx hb dX1_commonDivisor_2 rfl (lv_at hl 2 rfl) ?_
  refine lv_istore_n (lv' := [(3, .int (nI y)), (2, .int (nI x)), (0, .int (nI x)), (1, .int (nI y))]) hx hb dX1_commonDivisor_3 rfl hl (by decide) rfl (fun ls hl => ?_)
  refine lv_iconst (v := nI 0) hx hb dX1_commonDivisor_4 (by decide) ?_
  refine lv_istore (lv' := [(4, .int (nI 0)), (3, .int (nI y)), (2, .int (nI x)), (0, .int (nI x)), (1, .int (nI y))]) hx hb dX1_commonDivisor_5 hl (by decide) rfl (fun ls hl => ?_)
  have lp_7 : ∀ (nf : Nat) (i : Nat) (g : Nat) (r : Nat), i ≤ 64 → g < 2 ^ 31 → r * 2 ^ (i / 2) ≤ y → i = 0 ∨ (r ≤ g ∧ g * 2 ^ ((i - 1) / 2) ≤ y) → Nat.gcd g r = Nat.gcd x y → 64 - i < nf → ∀ (ls : Array Slot), lv_has ls 6 [(0, .int (nI x)), (1, .int (nI y)), (2, .int (nI g)), (3, .int (nI r)), (4, .int (nI i))] → W pg l ev (headSpec wsX1_commonDivisor ({ frames := 0, cells := 0, slots := 0, locals := 0 })).room s mt ([.int (nI x), .int (nI y)] : List Value).toArray below meth cd s.heap [] 0 0 (MQ below (vp_Si (fun r => r = nI (Nat.gcd x y))) ([.int (nI x), .int (nI y)] : List Value).toArray s 0 0 (fun _ => False)) (F0 mt 7 ls []) := by
    intro nf
    induction nf with
    | zero => intro i g r hi hg hr_ hq hgc hfu; exact absurd hfu (Nat.not_lt_zero _)
    | succ nf ih_7 =>
      intro i g r hi hg hr_ hq hgc hfu ls hl
      have hp1 := Nat.one_le_two_pow (n := i / 2)
      have hrb : r ≤ y := Nat.le_trans (Nat.le_mul_of_pos_right r hp1) hr_
      refine lv_iload hx hb dX1_commonDivisor_7 (lv_at hl 4 rfl) ?_
      refine lv_bipush (v := nI 64) hx hb dX1_commonDivisor_9 (by decide) ?_
      refine nv_icmp_ge (tgt := 34) hx hb dX1_commonDivisor_11 (by decide) (by omega) (by omega) (fun c_11 => ?_) (fun c_11 => ?_)
      · refine lv_iload_n hx hb dX1_commonDivisor_34 rfl (lv_at hl 2 rfl) ?_
        exact W.iret (v := nI g) hx hb hr (fun zt ht zw => ⟨_, rfl, (congrArg nI (show g = Nat.gcd x y from by first | (rw [c_15] at hgc; rw [← hgc, Nat.gcd_zero_right]) | (rw [show r = 0 from euc_64 h2 (by omega) hr_] at hgc; rw [← hgc, Nat.gcd_zero_right]))), ht⟩) (fun q hq => absurd hq List.not_mem_nil) dX1_commonDivisor_35
      refine lv_iload_n hx hb dX1_commonDivisor_14 rfl (lv_at hl 3 rfl) ?_
      refine nv_if_eq (tgt := 34) hx hb dX1_commonDivisor_15 (by decide) (by omega) (fun c_15 => ?_) (fun c_15 => ?_)
      · refine lv_iload_n hx hb dX1_commonDivisor_34 rfl (lv_at hl 2 rfl) ?_
        exact W.iret (v := nI g) hx hb hr (fun zt ht zw => ⟨_, rfl, (congrArg nI (show g = Nat.gcd x y from by first | (rw [c_15] at hgc; rw [← hgc, Nat.gcd_zero_right]) | (rw [show r = 0 from euc_64 h2 (by omega) hr_] at hgc; rw [← hgc, Nat.gcd_zero_right]))), ht⟩) (fun q hq => absurd hq List.not_mem_nil) dX1_commonDivisor_35
      refine lv_iload_n hx hb dX1_commonDivisor_18 rfl (lv_at hl 2 rfl) ?_
      refine lv_iload_n hx hb dX1_commonDivisor_19 rfl (lv_at hl 3 rfl) ?_
      refine lv_irem hx hb dX1_commonDivisor_20 (nI_ne0 (by omega) (by omega)) ?_
      refine toi (pk_rem (a := g) (d := r) (by omega) (by omega) (by omega)) ?_
      refine lv_istore (lv' := [(5, .int (nI (g % r))), (0, .int (nI x)), (1, .int (nI y)), (2, .int (nI g)), (3, .int (nI r)), (4, .int (nI i))]) hx hb dX1_commonDivisor_21 hl (by decide) rfl (fun ls hl => ?_)
      refine lv_iload_n hx hb dX1_commonDivisor_23 rfl (lv_at hl 4 rfl) ?_
      refine lv_istore_n (lv' := [(2, .int (nI r)), (5, .int (nI (g % r))), (0, .int (nI x)), (1, .int (nI y)), (3, .int (nI r)), (4, .int (nI i))]) hx hb dX1_commonDivisor_24 rfl hl (by decide) rfl (fun ls hl => ?_)
      refine lv_iload hx hb dX1_commonDivisor_25 (lv_at hl 1 rfl) ?_
      refine lv_istore_n (lv' := [(3, .int (nI (g % r))), (2, .int (nI r)), (5, .int (nI (g % r))), (0, .int (nI x)), (1, .int (nI y)), (4, .int (nI i))]) hx hb dX1_commonDivisor_27 rfl hl (by decide) rfl (fun ls hl => ?_)
      refine lv_iinc (v := nI (i + 1)) (lv' := [(4, .int (nI (i + 1))), (3, .int (nI (g % r))), (2, .int (nI r)), (5, .int (nI (g % r))), (0, .int (nI x)), (1, .int (nI y))]) hx hb dX1_commonDivisor_28 hl (k := 5) rfl (nI_add i 1) (by decide) rfl (fun ls hl => ?_)
      refine lv_goto (tgt := 7) hx hb dX1_commonDivisor_31 (by decide) ?_
      exact ih_7 (i + 1) r (g % r) (by first | rfl | omega | (simp_all; done)) (by omega) (by exact euc_r hq hr_ (by omega)) (by exact euc_g hr_ (by omega)) (by rw [Nat.gcd_comm, ← Nat.gcd_rec, Nat.gcd_comm]; exact hgc) (by omega) ls (lvcv (l := [(0, .int (nI x)), (1, .int (nI y)), (2, .int (nI r)), (3, .int (nI (g % r))), (4, .int (nI (i + 1)))]) (lv_sub hl [4, 5, 2, 1, 0] rfl) (lvC (lvC (lvC (lvC (lvC rfl))))))
  exact lp_7 (64 - 0 + 1) 0 x y (by first | rfl | omega | (simp_all; done)) (by omega) (by simp) (by exact Or.inl rfl) (by rfl) (by omega) ls (lvcv (l := [(0, .int (nI x)), (1, .int (nI y)), (2, .int (nI x)), (3, .int (nI y)), (4, .int (nI 0))]) (lv_sub hl [3, 4, 2, 1, 0] rfl) (lvC (lvC (lvC (lvC (lvC rfl))))))

set_option maxHeartbeats 400000 in
set_option maxRecDepth 100000 in
theorem c_X1_put (l : Launch) (G : va_G) (cI cJ : ClassId) (a : Nat → Nat) (up : Int64) (lo : Int64) (x : Nat) (y : Nat) (h1 : x < 2 ^ 31) (h2 : y < 2 ^ 31) (h3 : 0 < y) : Met l yX1_put wsX1_put ({ frames := 1, cells := 0, slots := 0, locals := 25 }) (rwP G cI cJ [.ref (a 7), .int (nI x), .int (nI y)] [oFr a up lo]) (rwQv G [oFr a up lo] (fun (_ : Unit) => True) (fun (_ : Unit) => [oFr a (lN (x / Nat.gcd x y)) (lN (y / Nat.gcd x y))])) 0 0 (ads [oFr a up lo]) := by
  refine Met.ofW (cc := cX1_put) (maxL := 4) (ret := none) (by decide) rfl ?_
  intro pg ev s mt args below meth cd s₁ B hml hv
  obtain ⟨rfl, hP, hD0, hK⟩ := hv
  have hx := B.exec
  have hb := B.bytes
  have hr := B.returns
  have hts := atoms_spec (ws := wsX1_put) B.pre
  have hown : s.vm.findClass RX1 = some mt.cls := findClass_of_methodNamed B.named
  have hlocks := B.notSynchronized
  have hD := ads_self hD0
  generalize hAe : ads [oFr a up lo] = A at hD ⊢
  have hS : va_S A s.heap s.heap [] := va_S.rf
  have hP : va_P G vwCl [oFr a up lo] s.heap := hP
  have hinX1 := (show ∀ w ∈ u_ws RX1 TX1 2, w ∈ wsX1_put by decide +kernel)
  have fl7 := hts (.fieldLink RX1 7 "SpotRows$Fraction" "upper" "J") (by decide +kernel)
  have fl13 := hts (.fieldLink RX1 13 "SpotRows$Fraction" "lower" "J") (by decide +kernel)
  have hl := lv_entry ([.ref (a 7), .int (nI x), .int (nI y)]) (n := 4) (Nat.le_of_ble_eq_true rfl)
  rw [lg_entry_eq]
  generalize (lg_sl ([.ref (a 7), .int (nI x), .int (nI y)]) ++ List.replicate (4 - (lg_sl ([.ref (a 7), .int (nI x), .int (nI y)])).length) Slot.unset).toArray = ls at hl ⊢
  have hl : lv_has ls 4 [(0, .ref (a 7)), (1, .int (nI x)), (2, .int (nI y))] := hl
  have g1 := Nat.gcd_pos_of_pos_right x h3
  have g2 := Nat.le_of_dvd h3 (Nat.gcd_dvd_right x y)
  have g3 := Nat.div_le_self x (Nat.gcd x y)
  have g4 := Nat.div_le_self y (Nat.gcd x y)
  refine lv_iload_n hx hb dX1_put_0 rfl (lv_at hl 1 rfl) ?_
  refine lv_iload_n hx hb dX1_put_1 rfl (lv_at hl 2 rfl) ?_
  refine cro_i (va_runS (As := [.int (nI x), .int (nI y)]) (rest := []) ⟨hx, hb, hml, hown, hts⟩ (c_X1_commonDivisor l G cI cJ (x := x) (y := y) (h1 := by first | assumption | omega) (h2 := by first | assumption | omega)) (va_cwS 2 hts gX1_put_X1_commonDivisor rfl rfl rfl (by decide +kernel) ⟨Nat.le_of_ble_eq_true rfl, Nat.le_of_ble_eq_true rfl⟩) (preS_ro (wc := []) hK hP [] rfl) rfl rfl hl.1 rfl (lv_room (Nat.le_of_ble_eq_true rfl)) dX1_put_2 ⟨Nat.zero_le _, Nat.zero_le _⟩) ?_
  refine lv_istore_n (lv' := [(3, .int (nI (Nat.gcd x y))), (0, .ref (a 7)), (1, .int (nI x)), (2, .int (nI y))]) hx hb dX1_put_5 rfl hl (by decide) rfl (fun ls hl => ?_)
  refine lv_iload_n hx hb dX1_put_6 rfl (lv_at hl 0 rfl) ?_
  refine nv_if_le (tgt := 26) hx hb dX1_put_7 (by decide) (by omega) (fun c_7 => ?_) (fun c_7 => ?_)
  · exact absurd c_7 (by omega)
  refine lv_aload_n hx hb dX1_put_10 rfl (lv_at hl 1 rfl) ?_
  refine lv_iload_n hx hb dX1_put_11 rfl (lv_at hl 2 rfl) ?_
  refine lv_iload_n hx hb dX1_put_12 rfl (lv_at hl 0 rfl) ?_
  refine lv_idiv hx hb dX1_put_13 (nI_ne0 (by omega) (by omega)) ?_
  refine toi (pk_div (a := x) (d := (Nat.gcd x y)) (by omega) (by omega) (by omega)) ?_
  refine lv_i2l (v := lN (x / Nat.gcd x y)) hx hb dX1_put_14 (nI_l (by omega)) ?_
  refine va_put (D := G) (own := RX1) (ref := "SpotRows$Fraction") (ci := 1) (v := .long (lN (x / Nat.gcd x y))) (ty := .long) (C := RX1) (T := TX1) (N := 2) hx hb hts hinX1 tyX1 tyX1_ok nmX1 hown hK.1 hP hD hS 0 rfl rfl 0 (by decide) fl7 (fun _ h9 => h9) rfl (by decide +kernel) rfl rfl (Nat.le_of_ble_eq_true rfl) dX1_put_15 (fun H locs hP hD hS => ?_)
  have hP : va_P G vwCl [oFr a (lN (x / Nat.gcd x y)) lo] H := hP
  have hD : va_D A [oFr a (lN (x / Nat.gcd x y)) lo] := hD
  refine lv_aload_n hx hb dX1_put_18 rfl (lv_at hl 1 rfl) ?_
  refine lv_iload_n hx hb dX1_put_19 rfl (lv_at hl 3 rfl) ?_
  refine lv_iload_n hx hb dX1_put_20 rfl (lv_at hl 0 rfl) ?_
  refine lv_idiv hx hb dX1_put_21 (nI_ne0 (by omega) (by omega)) ?_
  refine toi (pk_div (a := y) (d := (Nat.gcd x y)) (by omega) (by omega) (by omega)) ?_
  refine lv_i2l (v := lN (y / Nat.gcd x y)) hx hb dX1_put_22 (nI_l (by omega)) ?_
  refine va_put (D := G) (own := RX1) (ref := "SpotRows$Fraction") (ci := 1) (v := .long (lN (y / Nat.gcd x y))) (ty := .long) (C := RX1) (T := TX1) (N := 2) hx hb hts hinX1 tyX1 tyX1_ok nmX1 hown hK.1 hP hD hS 0 rfl rfl 1 (by decide) fl13 (fun _ h9 => h9) rfl (by decide +kernel) rfl rfl (Nat.le_of_ble_eq_true rfl) dX1_put_23 (fun H locs hP hD hS => ?_)
  have hP : va_P G vwCl [oFr a (lN (x / Nat.gcd x y)) (lN (y / Nat.gcd x y))] H := hP
  have hD : va_D A [oFr a (lN (x / Nat.gcd x y)) (lN (y / Nat.gcd x y))] := hD
  exact W.vret hx hb hr (fun zt ht zw => ⟨⟨(), rfl, trivial, by show va_P _ _ _ zt.heap; rw [ht]; exact hP⟩, by rw [hAe]; exact hS.F ht⟩) hS.2.2 dX1_put_26
