/-! the law's loop -/
theorem and31 (x : Int32) : ∃ k : Nat, k < 32 ∧ x &&& nI 31 = nI k := by
  have h : x.toBitVec.toNat &&& 31 ≤ 31 := Nat.and_le_right
  refine ⟨x.toBitVec.toNat &&& 31, by omega, ?_⟩
  apply Int32.toBitVec_inj.mp
  apply BitVec.eq_of_toNat_eq
  rw [Int32.toBitVec_and, BitVec.toNat_and]
  show _ &&& 31 = (BitVec.ofNat 32 _).toNat
  rw [BitVec.toNat_ofNat, Nat.mod_eq_of_lt (by omega)]
set_option maxHeartbeats 4000000 in
set_option maxRecDepth 100000 in
theorem law_loop {p : Program} {l : Launch} {e : Env} {s : State} {m : MethodId} {below : List Frame} {meth : Method} {c : Code} {sb L : Nat} {xs : Nat → Int32} {G : va_G} {cI cJ : ClassId} {a b : Nat → Nat} (hL : L ≤ 3072) (C0 : lw_At p s m meth c sb L xs) (hK : KK G cI cJ s) :
    ∀ (n i : Nat), L + 12 ≤ i + n → i ≤ L + 5 → ∀ (H : Heap) (locs : List Loc), LawI G cI cJ (fun q : Nat => s.heap.size ≤ q) a b H → va_S (fun q : Nat => s.heap.size ≤ q) s.heap H locs → ∀ (ls : Array Slot), lv_has ls 4 [(0, .ref sb), (1, .ref (a 0)), (2, .ref (b 0)), (3, .int (nI i))] → W p l e room_1 s m #[Value.ref sb] below meth c H locs 44 7364 (lw_Z below #[Value.ref sb] s) (F0 m 18 ls []) := by
  obtain ⟨hx, hb, hr, hml, hown, hts0, hX, hbl, hlocks, hgv⟩ := C0
  have hts : ∀ w ∈ wsL_law, w.before #[Value.ref sb] s = true := fun w hw => hts0 w (wsL_law_in w hw)
  have hbA : ¬ (fun q : Nat => s.heap.size ≤ q) sb := Nat.not_le.mpr hbl
  intro n
  induction n with
  | zero =>
    intro i h1 h2
    exact absurd h1 (by omega)
  | succ n ih =>
    intro i h1 h2 H locs hI hS ls hl
    refine lv_iload_n hx hb dL_law_18 rfl (lv_at hl 3 rfl) ?_
    refine lv_aload_n hx hb dL_law_19 rfl (lv_at hl 0 rfl) ?_
    refine va_slen hx hb hX hbl hbA hS dL_law_20 ?_
    refine lv_bipush (v := nI 6) hx hb dL_law_21 (by decide) ?_
    refine lv_isub hx hb dL_law_23 ?_
    refine lv_icmp_gt (tgt := 1169) hx hb dL_law_24 (by decide) (fun c_24 => ?_) (fun c_24 => ?_)
    · refine lv_iconst (v := 1) hx hb dL_law_1169 (by decide) ?_
      refine va_forget (fun q hq => hS.2.2 q hq) ?_
      exact lw_ret hx hb hr hlocks dL_law_1170
    · have hi : i + 6 ≤ L := by
        have h3 : ¬ L < i + 6 := fun q => c_24 ((rsub2_lt (a := L) (b := 6) (c := i) (by omega) (by decide) (by omega)).mpr q)
        omega
      have LC : LCx p s m c sb L i xs G cI cJ (fun q : Nat => s.heap.size ≤ q) := ⟨hx, hb, hml, hown, hts, hK, hX, hbl, hbA, hi, hL⟩
      have nx : ∀ (H : Heap) (locs : List Loc), LawI G cI cJ (fun q : Nat => s.heap.size ≤ q) a b H → va_S (fun q : Nat => s.heap.size ≤ q) s.heap H locs → W p l e room_1 s m #[Value.ref sb] below meth c H locs 44 7364 (lw_Z below #[Value.ref sb] s) (F0 m 1163 ls []) := fun H locs hI hS => by
        refine lv_iinc (v := nI (i + 6)) (lv' := [(3, .int (nI (i + 6))), (0, .ref sb), (1, .ref (a 0)), (2, .ref (b 0))]) hx hb dL_law_1163 hl (k := 3) rfl (nI_add i 6) (by decide) rfl (fun ls hl => ?_)
        refine lv_goto (tgt := 18) hx hb dL_law_1166 (by decide) ?_
        exact ih (i + 6) (by omega) (by omega) H locs hI hS ls (lv_sub hl [1, 2, 3, 0] rfl)
      refine lv_aload_n hx hb dL_law_27 rfl (lv_at hl 0 rfl) ?_
      refine lv_iload_n hx hb dL_law_28 rfl (lv_at hl 3 rfl) ?_
      refine va_sld hx hb hX hbl hbA hS (vp_in_nI (show i < L by omega) (by omega)) dL_law_29 ?_
      refine lv_bipush (v := nI 31) hx hb dL_law_30 (by decide) ?_
      refine lv_iand hx hb dL_law_32 ?_
      obtain ⟨k, hk, ek⟩ := and31 (xs (nI i).toNatClampNeg)
      refine toi ek ?_
      by_cases h28 : 28 ≤ k
      · refine lv_tableOut (tgt := 1163) hx hb dL_law_33 (Or.inr (by rw [nI_toInt (by omega)]; omega)) (by decide) ?_
        exact nx H locs hI hS
      · rcases (show k = 0 ∨ k = 1 ∨ k = 2 ∨ k = 3 ∨ k = 4 ∨ k = 5 ∨ k = 6 ∨ k = 7 ∨ k = 8 ∨ k = 9 ∨ k = 10 ∨ k = 11 ∨ k = 12 ∨ k = 13 ∨ k = 14 ∨ k = 15 ∨ k = 16 ∨ k = 17 ∨ k = 18 ∨ k = 19 ∨ k = 20 ∨ k = 21 ∨ k = 22 ∨ k = 23 ∨ k = 24 ∨ k = 25 ∨ k = 26 ∨ k = 27 by omega) with rfl | rfl | rfl | rfl | rfl | rfl | rfl | rfl | rfl | rfl | rfl | rfl | rfl | rfl | rfl | rfl | rfl | rfl | rfl | rfl | rfl | rfl | rfl | rfl | rfl | rfl | rfl | rfl
        · exact lv_tableIn (off := 127) (tgt := 160) hx hb dL_law_33 (by decide) (by decide) rfl (by decide) (law_0 LC hI hS hl nx)
        · exact lv_tableIn (off := 140) (tgt := 173) hx hb dL_law_33 (by decide) (by decide) rfl (by decide) (law_1 LC hI hS hl nx)
        · exact lv_tableIn (off := 154) (tgt := 187) hx hb dL_law_33 (by decide) (by decide) rfl (by decide) (law_2 LC hI hS hl nx)
        · exact lv_tableIn (off := 168) (tgt := 201) hx hb dL_law_33 (by decide) (by decide) rfl (by decide) (law_3 LC hI hS hl nx)
        · exact lv_tableIn (off := 211) (tgt := 244) hx hb dL_law_33 (by decide) (by decide) rfl (by decide) (law_4 LC hI hS hl nx)
        · exact lv_tableIn (off := 284) (tgt := 317) hx hb dL_law_33 (by decide) (by decide) rfl (by decide) (law_5 LC hI hS hl nx)
        · exact lv_tableIn (off := 318) (tgt := 351) hx hb dL_law_33 (by decide) (by decide) rfl (by decide) (law_6 LC hI hS hl nx)
        · exact lv_tableIn (off := 381) (tgt := 414) hx hb dL_law_33 (by decide) (by decide) rfl (by decide) (law_7 LC hI hS hl nx)
        · exact lv_tableIn (off := 394) (tgt := 427) hx hb dL_law_33 (by decide) (by decide) rfl (by decide) (law_8 LC hI hS hl nx)
        · exact lv_tableIn (off := 447) (tgt := 480) hx hb dL_law_33 (by decide) (by decide) rfl (by decide) (law_9 LC hI hS hl nx)
        · exact lv_tableIn (off := 480) (tgt := 513) hx hb dL_law_33 (by decide) (by decide) rfl (by decide) (law_10 LC hI hS hl nx)
        · exact lv_tableIn (off := 533) (tgt := 566) hx hb dL_law_33 (by decide) (by decide) rfl (by decide) (law_11 LC hI hS hl nx)
        · exact lv_tableIn (off := 576) (tgt := 609) hx hb dL_law_33 (by decide) (by decide) rfl (by decide) (law_12 LC hI hS hl nx)
        · exact lv_tableIn (off := 599) (tgt := 632) hx hb dL_law_33 (by decide) (by decide) rfl (by decide) (law_13 LC hI hS hl nx)
        · exact lv_tableIn (off := 632) (tgt := 665) hx hb dL_law_33 (by decide) (by decide) rfl (by decide) (law_14 LC hI hS hl nx)
        · exact lv_tableIn (off := 665) (tgt := 698) hx hb dL_law_33 (by decide) (by decide) rfl (by decide) (law_15 LC hI hS hl nx)
        · exact lv_tableIn (off := 698) (tgt := 731) hx hb dL_law_33 (by decide) (by decide) rfl (by decide) (law_16 LC hI hS hl nx)
        · exact lv_tableIn (off := 731) (tgt := 764) hx hb dL_law_33 (by decide) (by decide) rfl (by decide) (law_17 LC hI hS hl nx)
        · exact lv_tableIn (off := 774) (tgt := 807) hx hb dL_law_33 (by decide) (by decide) rfl (by decide) (law_18 LC hI hS hl nx)
        · exact lv_tableIn (off := 807) (tgt := 840) hx hb dL_law_33 (by decide) (by decide) rfl (by decide) (law_19 LC hI hS hl nx)
        · exact lv_tableIn (off := 850) (tgt := 883) hx hb dL_law_33 (by decide) (by decide) rfl (by decide) (law_20 LC hI hS hl nx)
        · exact lv_tableIn (off := 883) (tgt := 916) hx hb dL_law_33 (by decide) (by decide) rfl (by decide) (law_21 LC hI hS hl nx)
        · exact lv_tableIn (off := 906) (tgt := 939) hx hb dL_law_33 (by decide) (by decide) rfl (by decide) (law_22 LC hI hS hl nx)
        · exact lv_tableIn (off := 949) (tgt := 982) hx hb dL_law_33 (by decide) (by decide) rfl (by decide) (law_23 LC hI hS hl nx)
        · exact lv_tableIn (off := 972) (tgt := 1005) hx hb dL_law_33 (by decide) (by decide) rfl (by decide) (law_24 LC hI hS hl nx)
        · exact lv_tableIn (off := 995) (tgt := 1028) hx hb dL_law_33 (by decide) (by decide) rfl (by decide) (law_25 LC hI hS hl nx)
        · exact lv_tableIn (off := 1028) (tgt := 1061) hx hb dL_law_33 (by decide) (by decide) rfl (by decide) (law_26 LC hI hS hl nx)
        · exact lv_tableIn (off := 1097) (tgt := 1130) hx hb dL_law_33 (by decide) (by decide) rfl (by decide) (law_27 LC hI hS hl nx)
